/-! ===== what a minute shows ===== -/
def mHv (t li : Int32) : Int32 := if t ≤ li then nI 0 else nI 1
def mFs (F g : Nat → Int32) : Nat → Int32 := mSum (fun f => if F f = 0 then nI 0 else g f)
theorem mFs_t (F g : Nat → Int32) (n : Nat) (h : F n = 0) : mFs F g (n + 1) = mFs F g n + nI 0 := by
  show mSum _ n + (if F n = 0 then nI 0 else g n) = _
  rw [if_pos h]; rfl
theorem mFs_f (F g : Nat → Int32) (n : Nat) (h : ¬ F n = 0) : mFs F g (n + 1) = mFs F g n + g n := by
  show mSum _ n + (if F n = 0 then nI 0 else g n) = _
  rw [if_neg h]; rfl
theorem mRun_f0 (F g : Nat → Int32) (n : Nat) (h : ¬ F n = 0) : mRun F g (n + 1) = mRun F g n + nI 0 := by
  rw [mRun_f F g n h, nI_0, Int32.add_zero]
theorem mSum_2 (F g : Nat → Int32) : ∀ n : Nat, mSum g n = mFs F g n + mRun F g n
  | 0 => by show nI 0 = nI 0 + nI 0; decide +kernel
  | n + 1 => by
    have ih := mSum_2 F g n
    by_cases h : F n = 0
    · rw [mFs_t F g n h, mRun_t F g n h, nI_0, Int32.add_zero, ← Int32.add_assoc, ← ih]; rfl
    · rw [mFs_f F g n h, mRun_f F g n h, Int32.add_assoc, Int32.add_comm (g n), ← Int32.add_assoc, ← ih]; rfl
def zM (q : QS) (zf : Nat → Int32) : Nat → Nat → Int32
  | 0 => zf
  | n + 1 => upd (upd (upd (zM q zf n) (12 + n) (sT (qσ q) n)) (18 + n) (sE (qσ q) n)) (24 + n) (qHo q n)
theorem zM_lo (q : QS) (zf : Nat → Int32) {j : Nat} (hj : j < 12) : ∀ n : Nat, zM q zf n j = zf j
  | 0 => rfl
  | n + 1 => by
    show upd (upd (upd (zM q zf n) (12 + n) (sT (qσ q) n)) (18 + n) (sE (qσ q) n)) (24 + n) (qHo q n) j = zf j
    unfold upd
    rw [if_neg (by omega), if_neg (by omega), if_neg (by omega)]
    exact zM_lo q zf hj n
theorem zM_T (q : QS) (zf : Nat → Int32) {j : Nat} : ∀ n : Nat, n ≤ 6 → j < n → zM q zf n (12 + j) = sT (qσ q) j
  | 0, _, h => absurd h (Nat.not_lt_zero j)
  | n + 1, hn, h => by
    show upd (upd (upd (zM q zf n) (12 + n) (sT (qσ q) n)) (18 + n) (sE (qσ q) n)) (24 + n) (qHo q n) (12 + j) = _
    unfold upd
    rw [if_neg (by omega), if_neg (by omega)]
    by_cases e : j = n
    · rw [if_pos (by omega), e]
    · rw [if_neg (by omega)]; exact zM_T q zf n (by omega) (by omega)
theorem zM_E (q : QS) (zf : Nat → Int32) {j : Nat} : ∀ n : Nat, n ≤ 6 → j < n → zM q zf n (18 + j) = sE (qσ q) j
  | 0, _, h => absurd h (Nat.not_lt_zero j)
  | n + 1, hn, h => by
    show upd (upd (upd (zM q zf n) (12 + n) (sT (qσ q) n)) (18 + n) (sE (qσ q) n)) (24 + n) (qHo q n) (18 + j) = _
    unfold upd
    rw [if_neg (by omega)]
    by_cases e : j = n
    · rw [if_pos (by omega), e]
    · rw [if_neg (by omega), if_neg (by omega)]; exact zM_E q zf n (by omega) (by omega)
theorem zM_H (q : QS) (zf : Nat → Int32) {j : Nat} : ∀ n : Nat, n ≤ 6 → j < n → zM q zf n (24 + j) = qHo q j
  | 0, _, h => absurd h (Nat.not_lt_zero j)
  | n + 1, hn, h => by
    show upd (upd (upd (zM q zf n) (12 + n) (sT (qσ q) n)) (18 + n) (sE (qσ q) n)) (24 + n) (qHo q n) (24 + j) = _
    unfold upd
    by_cases e : j = n
    · rw [if_pos (by omega), e]
    · rw [if_neg (by omega), if_neg (by omega), if_neg (by omega)]; exact zM_H q zf n (by omega) (by omega)
theorem ZR.zM {q : QS} {zf : Nat → Int32} (h : ZR zf q) (n : Nat) : ZR (zM q zf n) q := fun z hz => by
  rw [zM_lo q zf (by omega) n, zM_lo q zf (by omega) n]
  exact h z hz
/-! the law's own numbers of a minute, zone z -/
section MI
variable {q : QS} {z : Nat}
theorem mi_Tv (h : QOK q) (hz : z < 6) : (sT (qSt q (qσ q)) z).toInt = (sT (qσ q) z).toInt + (qLo q z).toInt + ((qam q).toInt - (sT (qσ q) z).toInt) / 64 - (mCo (qEf q) (sS (qSt q (qσ q))) z 8).toInt / 100 ∧ 0 ≤ (mCo (qEf q) (sS (qSt q (qσ q))) z 8).toInt ∧ (mCo (qEf q) (sS (qSt q (qσ q))) z 8).toInt ≤ 80000 := by
  obtain ⟨⟨s1, s2, s3, s4, s5, s6, s7, s8⟩, hH, -⟩ := id h
  have h4 := co_b (Ef := qEf q) (S := sS (qSt q (qσ q))) (z := z) (fun f hf => s3 f z hf hz) (hs_step h.1 hH).2.2.2.2.1
  have r1 := hH.1 z hz
  have l1 := s1 z hz
  rw [st_T hz]
  generalize mCo (qEf q) (sS (qSt q (qσ q))) z 8 = co at h4 ⊢
  generalize sT (qσ q) z = t at r1 ⊢
  generalize qLo q z = lo at l1 ⊢
  generalize qam q = am at s6 ⊢
  have a1 : (am - t).toInt = am.toInt - t.toInt := fb_subI (by omega) (by omega)
  have e64 : (nI 64).toInt = 64 := by decide +kernel
  have a2 : (mFd (am - t) (nI 64)).toInt = (am.toInt - t.toInt) / 64 := by rw [mFd_I (by rw [e64]; omega), a1, e64]
  have a3 : (co / nI 100).toInt = co.toInt / 100 := by rw [mDiv (by rw [e100.2]; omega), e100.2, Int.tdiv_eq_ediv_of_nonneg h4.1]
  have a4 : (t + lo).toInt = t.toInt + lo.toInt := fb_addI (by omega) (by omega)
  have a5 : (t + lo + mFd (am - t) (nI 64)).toInt = t.toInt + lo.toInt + (am.toInt - t.toInt) / 64 := by rw [fb_addI (by rw [a4, a2]; omega) (by rw [a4, a2]; omega), a4, a2]
  refine ⟨?_, h4⟩
  unfold mTn
  rw [fb_subI (by rw [a5, a3]; omega) (by rw [a5, a3]; omega), a5, a3]
theorem mi_drift (h : QOK q) (hz : z < 6) : ¬ (qam q - sT (qσ q) z) < nI 64 * (sT (qσ (qPass q 1)) z - sT (qσ q) z - qLo q z + mCo (qEf q) (sS (qσ (qPass q 1))) z 8 / nI 100) ∧ ¬ nI 64 * (sT (qσ (qPass q 1)) z - sT (qσ q) z - qLo q z + mCo (qEf q) (sS (qσ (qPass q 1))) z 8 / nI 100) ≤ qam q - sT (qσ q) z - nI 64 := by
  show ¬ (qam q - sT (qσ q) z) < nI 64 * (sT (qSt q (qσ q)) z - sT (qσ q) z - qLo q z + mCo (qEf q) (sS (qSt q (qσ q))) z 8 / nI 100) ∧ ¬ nI 64 * (sT (qSt q (qσ q)) z - sT (qσ q) z - qLo q z + mCo (qEf q) (sS (qSt q (qσ q))) z 8 / nI 100) ≤ qam q - sT (qσ q) z - nI 64
  obtain ⟨h0, h4⟩ := mi_Tv h hz
  have r1 := h.2.1.1 z hz
  have l1 := h.1.1 z hz
  have s6 := h.1.2.2.2.2.2.1
  generalize mCo (qEf q) (sS (qSt q (qσ q))) z 8 = co at h0 h4 ⊢
  generalize sT (qSt q (qσ q)) z = t1 at h0 ⊢
  generalize sT (qσ q) z = t at h0 r1 ⊢
  generalize qLo q z = lo at h0 l1 ⊢
  generalize qam q = am at h0 s6 ⊢
  have e64 : (nI 64).toInt = 64 := by decide +kernel
  have a3 : (co / nI 100).toInt = co.toInt / 100 := by rw [mDiv (by rw [e100.2]; omega), e100.2, Int.tdiv_eq_ediv_of_nonneg h4.1]
  have b1 : (t1 - t).toInt = t1.toInt - t.toInt := fb_subI (by omega) (by omega)
  have b2 : (t1 - t - lo).toInt = t1.toInt - t.toInt - lo.toInt := by rw [fb_subI (by rw [b1]; omega) (by rw [b1]; omega), b1]
  have b3 : (t1 - t - lo + co / nI 100).toInt = (am.toInt - t.toInt) / 64 := by rw [fb_addI (by rw [b2, a3]; omega) (by rw [b2, a3]; omega), b2, a3]; omega
  have b4 : (nI 64 * (t1 - t - lo + co / nI 100)).toInt = 64 * ((am.toInt - t.toInt) / 64) := by rw [fb_mulI (by rw [e64, b3]; omega) (by rw [e64, b3]; omega), e64, b3]
  have c1 : (am - t).toInt = am.toInt - t.toInt := fb_subI (by omega) (by omega)
  have c2 : (am - t - nI 64).toInt = am.toInt - t.toInt - 64 := by rw [fb_subI (by rw [c1, e64]; omega) (by rw [c1, e64]; omega), c1, e64]
  rw [Int32.lt_iff_toInt_lt, Int32.le_iff_toInt_le, b4, c1, c2]
  omega
theorem mi_E (hz : z < 6) : sE (qσ (qPass q 1)) z = mEr (sT (qσ q) z) (sE (qσ q) z) (qSe q z) := st_E (q := q) (σ := qσ q) hz
theorem mi_err1 (hz : z < 6) (h : ¬ sE (qσ q) z + (sT (qσ q) z - qSe q z) ≤ nI 20000) : nI 20000 = sE (qσ (qPass q 1)) z := by
  rw [mi_E hz]
  apply Int32.toInt_inj.mp
  unfold mEr
  rw [Int32.le_iff_toInt_le, e20000.2] at h
  rw [mHold_I _ _ _ (by rw [e20000.1, e20000.2]; omega), e20000.1, e20000.2, if_neg (by omega), if_pos (by omega)]
theorem mi_err2 (hz : z < 6) (h : ¬ (-20000) ≤ sE (qσ q) z + (sT (qσ q) z - qSe q z)) : (-20000) = sE (qσ (qPass q 1)) z := by
  rw [mi_E hz]
  apply Int32.toInt_inj.mp
  unfold mEr
  rw [Int32.le_iff_toInt_le, e20000.1] at h
  rw [mHold_I _ _ _ (by rw [e20000.1, e20000.2]; omega), e20000.1, e20000.2, if_pos (by omega)]
theorem mi_err3 (hz : z < 6) (h1 : sE (qσ q) z + (sT (qσ q) z - qSe q z) ≤ nI 20000) (h : (-20000) ≤ sE (qσ q) z + (sT (qσ q) z - qSe q z)) : sE (qσ q) z + (sT (qσ q) z - qSe q z) = sE (qσ (qPass q 1)) z := by
  rw [mi_E hz]
  apply Int32.toInt_inj.mp
  unfold mEr
  rw [Int32.le_iff_toInt_le, e20000.1] at h
  rw [Int32.le_iff_toInt_le, e20000.2] at h1
  rw [mHold_I _ _ _ (by rw [e20000.1, e20000.2]; omega), e20000.1, e20000.2, if_neg (by omega), if_neg (by omega)]
theorem mi_Ho (hz : z < 6) : qHo q z + mHv (sT (qσ (qPass q 1)) z) (qli q) = qHo (qPass q 1) z := by
  show _ = mFl 6 (mHo (qli q) (sT (qRn q 1 (qσ q))) (qHo q)) (qHo q) z
  rw [mFl_lt _ _ hz]
  show qHo q z + mHv (sT (qRn q 1 (qσ q)) z) (qli q) = _
  unfold mHo mHv
  by_cases c : sT (qRn q 1 (qσ q)) z ≤ qli q
  · rw [if_pos c, if_pos c, nI_0, Int32.add_zero]
  · rw [if_neg c, if_neg c]
/-- hundred, and the demand that is wanted -/
theorem mi_hun (h : QOK q) (hz : z < 6) : (nI 100 * qgp q * (sT (qσ q) z - qSe q z) + qgi q * sE (qσ (qPass q 1)) z).toInt = 100 * ((qgp q).toInt * ((sT (qσ q) z).toInt - (qSe q z).toInt)) + (qgi q).toInt * (sE (qσ (qPass q 1)) z).toInt ∧
    (mWa (qgp q) (qgi q) (sT (qσ q) z) (qSe q z) (sE (qσ (qPass q 1)) z)).toInt = (if (100 * ((qgp q).toInt * ((sT (qσ q) z).toInt - (qSe q z).toInt)) + (qgi q).toInt * (sE (qσ (qPass q 1)) z).toInt) / 10000 < 0 then 0 else if 100 < (100 * ((qgp q).toInt * ((sT (qσ q) z).toInt - (qSe q z).toInt)) + (qgi q).toInt * (sE (qσ (qPass q 1)) z).toInt) / 10000 then 100 else (100 * ((qgp q).toInt * ((sT (qσ q) z).toInt - (qSe q z).toInt)) + (qgi q).toInt * (sE (qσ (qPass q 1)) z).toInt) / 10000) := by
  have h3 := h.2.1.1 z hz
  have h4 := h.1.2.1 z hz
  have h1 := h.1.2.2.2.1
  have h2 := h.1.2.2.2.2.1
  have h5 : -20000 ≤ (sE (qσ (qPass q 1)) z).toInt ∧ (sE (qσ (qPass q 1)) z).toInt ≤ 20000 := by rw [mi_E hz]; exact mEr_b _ _ _
  generalize sE (qσ (qPass q 1)) z = e at h5 ⊢
  generalize sT (qσ q) z = t at h3 ⊢
  generalize qSe q z = sp at h4 ⊢
  generalize qgp q = gp at h1 ⊢
  generalize qgi q = gi at h2 ⊢
  have a1 : (gi.toInt * e.toInt).natAbs ≤ 200 * 20000 := mulB (by omega) (by omega)
  have a2 : (gi * e).toInt = gi.toInt * e.toInt := fb_mulI (by omega) (by omega)
  have a3 : (t - sp).toInt = t.toInt - sp.toInt := fb_subI (by omega) (by omega)
  have a4 : (gp.toInt * (t.toInt - sp.toInt)).natAbs ≤ 200 * 53700 := mulB (by omega) (by omega)
  have a5 : (gp * (t - sp)).toInt = gp.toInt * (t.toInt - sp.toInt) := by rw [fb_mulI (by rw [a3]; omega) (by rw [a3]; omega), a3]
  have a6 : (mFd (gi * e) (nI 100)).toInt = (gi.toInt * e.toInt) / 100 := by rw [mFd_I (by rw [e100.2]; omega), a2, e100.2]
  have a7 : (gp * (t - sp) + mFd (gi * e) (nI 100)).toInt = gp.toInt * (t.toInt - sp.toInt) + (gi.toInt * e.toInt) / 100 := by rw [fb_addI (by rw [a5, a6]; omega) (by rw [a5, a6]; omega), a5, a6]
  have b1 : (nI 100 * gp).toInt = 100 * gp.toInt := by rw [fb_mulI (by rw [e100.2]; omega) (by rw [e100.2]; omega), e100.2]
  have b2 : (100 * gp.toInt) * (t.toInt - sp.toInt) = 100 * (gp.toInt * (t.toInt - sp.toInt)) := Int.mul_assoc _ _ _
  have b3 : (nI 100 * gp * (t - sp)).toInt = 100 * (gp.toInt * (t.toInt - sp.toInt)) := by rw [fb_mulI (by rw [b1, a3, b2]; omega) (by rw [b1, a3, b2]; omega), b1, a3, b2]
  generalize gp.toInt * (t.toInt - sp.toInt) = X at a4 a5 a7 b3 ⊢
  generalize gi.toInt * e.toInt = Y at a1 a2 a6 a7 ⊢
  refine ⟨by rw [fb_addI (by rw [b3, a2]; omega) (by rw [b3, a2]; omega), b3, a2], ?_⟩
  unfold mWa
  have a8 : (mFd (gp * (t - sp) + mFd (gi * e) (nI 100)) (nI 100)).toInt = (100 * X + Y) / 10000 := by
    rw [mFd_I (by rw [e100.2]; omega), a7, e100.2]; omega
  rw [mHold_I _ _ _ (by rw [e100.1, e100.2]; omega), a8, e100.1, e100.2]
theorem mi_D (hz : z < 6) : sD (qσ (qPass q 1)) z = mRa (sF (qσ q)) (fun f => qEf q f z) (mWa (qgp q) (qgi q) (sT (qσ q) z) (qSe q z) (sE (qσ (qPass q 1)) z)) := by
  rw [mi_E hz]
  exact st_D (q := q) (σ := qσ q) hz
/-- no failed fan works on the zone -/
theorem mi_D0 (hz : z < 6) (h0 : mFs (sF (qσ q)) (fun f => qEf q f z) 8 = 0) : sD (qσ (qPass q 1)) z = mWa (qgp q) (qgi q) (sT (qσ q) z) (qSe q z) (sE (qσ (qPass q 1)) z) := by
  rw [mi_D hz]
  unfold mRa
  rw [if_pos (by rw [mSum_2 (sF (qσ q)) (fun f => qEf q f z) 8, h0, Int32.zero_add])]
theorem i10 : (nI 10100).toInt = 10100 ∧ (nI 10000).toInt = 10000 ∧ (nI 1000000).toInt = 1000000 := by decide +kernel
theorem mi_w0 (h : QOK q) (hz : z < 6) (h0 : mFs (sF (qσ q)) (fun f => qEf q f z) 8 = 0) (hd : sD (qσ (qPass q 1)) z = 0) : ¬ nI 10100 ≤ nI 100 * qgp q * (sT (qσ q) z - qSe q z) + qgi q * sE (qσ (qPass q 1)) z := by
  obtain ⟨h1, h2⟩ := mi_hun h hz
  rw [← mi_D0 hz h0, hd, Int32.toInt_zero] at h2
  rw [Int32.le_iff_toInt_le, h1, i10.1]
  split at h2
  · omega
  · split at h2 <;> omega
theorem mi_w1 (h : QOK q) (hz : z < 6) (h0 : mFs (sF (qσ q)) (fun f => qEf q f z) 8 = 0) (hd : sD (qσ (qPass q 1)) z = nI 100) : ¬ nI 100 * qgp q * (sT (qσ q) z - qSe q z) + qgi q * sE (qσ (qPass q 1)) z < nI 1000000 := by
  obtain ⟨h1, h2⟩ := mi_hun h hz
  rw [← mi_D0 hz h0, hd, e100.2] at h2
  rw [Int32.lt_iff_toInt_lt, h1, i10.2.2]
  split at h2
  · omega
  · split at h2 <;> omega
theorem mi_w2 (h : QOK q) (hz : z < 6) (h0 : mFs (sF (qσ q)) (fun f => qEf q f z) 8 = 0) (hd0 : ¬ sD (qσ (qPass q 1)) z = 0) (hd1 : ¬ sD (qσ (qPass q 1)) z = nI 100) :
    ¬ nI 100 * qgp q * (sT (qσ q) z - qSe q z) + qgi q * sE (qσ (qPass q 1)) z < nI 10000 * sD (qσ (qPass q 1)) z ∧ ¬ nI 10000 * sD (qσ (qPass q 1)) z + nI 10100 ≤ nI 100 * qgp q * (sT (qσ q) z - qSe q z) + qgi q * sE (qσ (qPass q 1)) z := by
  obtain ⟨h1, h2⟩ := mi_hun h hz
  rw [← mi_D0 hz h0] at h2
  have h3 : ¬ (sD (qσ (qPass q 1)) z).toInt = 0 := fun c => hd0 (Int32.toInt_inj.mp (by rw [c, Int32.toInt_zero]))
  have h4 : ¬ (sD (qσ (qPass q 1)) z).toInt = 100 := fun c => hd1 (Int32.toInt_inj.mp (by rw [c, e100.2]))
  rw [Int32.lt_iff_toInt_lt, Int32.le_iff_toInt_le, h1]
  generalize sD (qσ (qPass q 1)) z = d at h2 h3 h4 ⊢
  split at h2
  · omega
  · split at h2
    · omega
    · have e1 : (nI 10000 * d).toInt = 10000 * d.toInt := by rw [fb_mulI (by rw [i10.2.1]; omega) (by rw [i10.2.1]; omega), i10.2.1]
      have e2 : (nI 10000 * d + nI 10100).toInt = 10000 * d.toInt + 10100 := by rw [fb_addI (by rw [e1, i10.1]; omega) (by rw [e1, i10.1]; omega), e1, i10.1]
      rw [e1, e2]
      omega
/-- some failed fans work on the zone -/
theorem mi_Dx (hz : z < 6) (h0 : ¬ mFs (sF (qσ q)) (fun f => qEf q f z) 8 = 0) : sD (qσ (qPass q 1)) z = if mRun (sF (qσ q)) (fun f => qEf q f z) 8 = 0 then nI 100 else mMin (nI 100) (mFd (mWa (qgp q) (qgi q) (sT (qσ q) z) (qSe q z) (sE (qσ (qPass q 1)) z) * mSum (fun f => qEf q f z) 8) (mRun (sF (qσ q)) (fun f => qEf q f z) 8)) := by
  rw [mi_D hz]
  unfold mRa
  rw [if_neg]
  intro c
  apply h0
  have h9 := mSum_2 (sF (qσ q)) (fun f => qEf q f z) 8
  rw [← c] at h9
  generalize mRun (sF (qσ q)) (fun f => qEf q f z) 8 = R at h9
  generalize mFs (sF (qσ q)) (fun f => qEf q f z) 8 = X at h9
  have h8 : R - R = (X + R) - R := by rw [← h9]
  rw [Int32.sub_self, Int32.add_sub_cancel] at h8
  exact h8.symm
theorem mi_run (h : QOK q) (hz : z < 6) : 0 ≤ (mRun (sF (qσ q)) (fun f => qEf q f z) 8).toInt ∧ (mRun (sF (qσ q)) (fun f => qEf q f z) 8).toInt ≤ (mSum (fun f => qEf q f z) 8).toInt ∧ (mSum (fun f => qEf q f z) 8).toInt ≤ 800 := by
  have h1 := mRun_b (F := sF (qσ q)) (n := 8) (by omega) (fun f hf => h.1.2.2.1 f z hf hz)
  have h2 := mSum_b (B := 100) (by omega) (n := 8) (by omega) (fun f hf => h.1.2.2.1 f z hf hz)
  have h3 : (mSum (fun f => qEf q f z) 8).toInt ≤ ((8 : Nat) : Int) * ((100 : Nat) : Int) := h2.2
  exact ⟨h1.1, h1.2, by omega⟩
theorem mi_x0 (h : QOK q) (hz : z < 6) (h0 : ¬ mFs (sF (qσ q)) (fun f => qEf q f z) 8 = 0) (hr : ¬ 0 < mRun (sF (qσ q)) (fun f => qEf q f z) 8) : sD (qσ (qPass q 1)) z = nI 100 := by
  rw [mi_Dx hz h0, if_pos]
  have h1 := (mi_run h hz).1
  rw [Int32.lt_iff_toInt_lt, Int32.toInt_zero] at hr
  exact Int32.toInt_inj.mp (by rw [Int32.toInt_zero]; omega)
theorem mi_x1 (h : QOK q) (hz : z < 6) (h0 : ¬ mFs (sF (qσ q)) (fun f => qEf q f z) 8 = 0) (hh : ¬ nI 100 * qgp q * (sT (qσ q) z - qSe q z) + qgi q * sE (qσ (qPass q 1)) z < nI 1000000) : sD (qσ (qPass q 1)) z = nI 100 := by
  obtain ⟨h1, h2⟩ := mi_hun h hz
  rw [Int32.lt_iff_toInt_lt, h1, i10.2.2] at hh
  have hw : mWa (qgp q) (qgi q) (sT (qσ q) z) (qSe q z) (sE (qσ (qPass q 1)) z) = nI 100 := by
    apply Int32.toInt_inj.mp
    rw [h2, e100.2]
    split
    · omega
    · split <;> omega
  rw [mi_Dx hz h0, hw]
  split
  · rfl
  · rename_i c
    obtain ⟨r1, r2, r3⟩ := mi_run h hz
    have c : ¬ (mRun (sF (qσ q)) (fun f => qEf q f z) 8).toInt = 0 := fun g => c (Int32.toInt_inj.mp (by rw [g, Int32.toInt_zero]))
    generalize mRun (sF (qσ q)) (fun f => qEf q f z) 8 = R at c r1 r2 ⊢
    generalize mSum (fun f => qEf q f z) 8 = A at r2 r3 ⊢
    have e1 : (nI 100 * A).toInt = 100 * A.toInt := by rw [fb_mulI (by rw [e100.2]; omega) (by rw [e100.2]; omega), e100.2]
    have e2 : 100 ≤ (mFd (nI 100 * A) R).toInt := by
      rw [mFd_I (by omega), e1]
      exact Int.le_ediv_of_mul_le (by omega) (by omega)
    unfold mMin
    rw [if_neg]
    rw [Int32.lt_iff_toInt_lt, e100.2]
    omega
theorem mi_x2 (h : QOK q) (hz : z < 6) (h0 : ¬ mFs (sF (qσ q)) (fun f => qEf q f z) 8 = 0) (hr : ¬ mRun (sF (qσ q)) (fun f => qEf q f z) 8 = 0) (hh : ¬ nI 10000 ≤ nI 100 * qgp q * (sT (qσ q) z - qSe q z) + qgi q * sE (qσ (qPass q 1)) z) : sD (qσ (qPass q 1)) z = 0 := by
  obtain ⟨h1, h2⟩ := mi_hun h hz
  rw [Int32.le_iff_toInt_le, h1, i10.2.1] at hh
  have hw : mWa (qgp q) (qgi q) (sT (qσ q) z) (qSe q z) (sE (qσ (qPass q 1)) z) = 0 := by
    apply Int32.toInt_inj.mp
    rw [h2, Int32.toInt_zero]
    split
    · rfl
    · split <;> omega
  rw [mi_Dx hz h0, hw, if_neg hr, Int32.zero_mul]
  obtain ⟨r1, r2, r3⟩ := mi_run h hz
  have c : ¬ (mRun (sF (qσ q)) (fun f => qEf q f z) 8).toInt = 0 := fun g => hr (Int32.toInt_inj.mp (by rw [g, Int32.toInt_zero]))
  generalize mRun (sF (qσ q)) (fun f => qEf q f z) 8 = R at c r1 ⊢
  have e2 : mFd 0 R = 0 := by
    apply Int32.toInt_inj.mp
    rw [mFd_I (by omega), Int32.toInt_zero]
    exact Int.zero_ediv _
  rw [e2]
  decide +kernel
/-- commands and speeds -/
theorem mi_cmd {f : Nat} (hf : f < 8) : sC (qσ (qPass q 1)) (sL (qσ (qPass q 1))) f = mGd (qEf q f) (sD (qσ (qPass q 1))) 6 := st_C (q := q) (σ := qσ q) hf
theorem mi_spd (h : QOK q) {f : Nat} (hf : f < 8) (hd : qdl q = 0) : sS (qσ (qPass q 1)) f = if sF (qσ q) f = 0 then mGd (qEf q f) (sD (qσ (qPass q 1))) 6 else nI 0 := by
  have h1 : sS (qσ (qPass q 1)) f = if sF (qσ q) f = 0 then sC (qSt q (qσ q)) (((sL (qσ q) + 1) % 9 + 9 - qdl q) % 9) f else nI 0 := st_S (q := q) (σ := qσ q) hf
  rw [h1, hd, show ((sL (qσ q) + 1) % 9 + 9 - 0) % 9 = (sL (qσ q) + 1) % 9 from by omega, st_C hf]
  rfl
theorem mi_late (h : QOK (qPass q 1)) {f : Nat} (hf : f < 8) (hd : qK q + 1 ≤ qdl q) : sS (qσ (qPass q 1)) f = nI 0 := by
  have h8 : qdl q < 9 := h.dl
  have hla : sL (qσ (qPass q 1)) = (qK q + 1) % 9 := h.2.2.1
  have hla' : (sL (qσ q) + 1) % 9 = (qK q + 1) % 9 := hla
  have h1 : sS (qσ (qPass q 1)) f = if sF (qσ q) f = 0 then sC (qσ (qPass q 1)) (((sL (qσ q) + 1) % 9 + 9 - qdl q) % 9) f else nI 0 := st_S (q := q) (σ := qσ q) hf
  rw [h1]
  split
  · exact h.2.2.2.1 (by show qK q + 1 < 9; omega) _ f (Nat.mod_lt _ (by decide)) hf (by show _ = 0 ∨ qK q + 1 < _; omega)
  · rfl
end MI
theorem mNot_h (li : Int32) (T : Nat → Int32) (n : Nat) : mNot li T n + mHv (T n) li = mNot li T (n + 1) := by
  unfold mHv
  by_cases c : T n ≤ li
  · rw [mNot_t li T n c, if_pos c, nI_0, Int32.add_zero]
  · rw [mNot_f li T n c, if_neg c]; rfl
theorem mi_told (q : QS) : pSum (qli q) (fun k => sT (qRn q k (qσ q))) 1 = mNot (qli q) (sT (qσ (qPass q 1))) 6 := by
  show nI 0 + mNot (qli q) (sT (qRn q 1 (qσ q))) 6 = _
  rw [nI_0, Int32.zero_add]
  rfl
theorem mNot_b (li : Int32) (T : Nat → Int32) : ∀ n : Nat, n ≤ 6 → 0 ≤ (mNot li T n).toInt ∧ (mNot li T n).toInt ≤ n
  | 0, _ => by show 0 ≤ (nI 0).toInt ∧ (nI 0).toInt ≤ _; rw [e100.1]; omega
  | n + 1, hn => by
    have ih := mNot_b li T n (by omega)
    have h1 : (1 : Int32).toInt = 1 := by decide +kernel
    by_cases h : T n ≤ li
    · rw [mNot_t li T n h]; omega
    · rw [mNot_f li T n h, fb_addI (by rw [h1]; omega) (by rw [h1]; omega), h1]; omega
theorem pSum_b (li : Int32) (f : Nat → Nat → Int32) : ∀ n : Nat, n ≤ 300 → 0 ≤ (pSum li f n).toInt ∧ (pSum li f n).toInt ≤ 6 * n
  | 0, _ => by show 0 ≤ (nI 0).toInt ∧ (nI 0).toInt ≤ _; rw [e100.1]; omega
  | n + 1, hn => by
    have ih := pSum_b li f n (by omega)
    have h1 := mNot_b li (f (n + 1)) 6 (Nat.le_refl 6)
    show 0 ≤ (pSum li f n + mNot li (f (n + 1)) 6).toInt ∧ (pSum li f n + mNot li (f (n + 1)) 6).toInt ≤ _
    rw [fb_addI (by omega) (by omega)]; omega
theorem mHv_1 {t li : Int32} (h : ¬ mHv t li = 0) : nI 1 = mHv t li := by
  unfold mHv at h ⊢
  split
  · rename_i c; rw [if_pos c] at h; exact absurd nI_0 h
  · rfl
theorem PR.fail2 {pf : Nat → Int32} {q : QS} {B f : Nat} (h : PR pf q B) (hf : f < 8) (hF : sF (qσ q) f = nI 1) : PR (upd pf 5 (pf 5 ||| (nI 1 <<< (nI f &&& 31)))) q (B ||| 2 ^ f) := by
  obtain ⟨h0, h1, h2, h3, h4, h5, hB, hb⟩ := h
  have hk := bit_or hB hf
  refine ⟨h0, h1, h2, h3, h4, ?_, hk.2, fun g hg => ?_⟩
  · show pf 5 ||| (nI 1 <<< (nI f &&& 31)) = _
    rw [h5]; exact hk.1
  · rw [bits_or hB hf hg]
    by_cases e : g = f
    · rw [if_pos e, e]; exact hF
    · rw [if_neg e]; exact hb g hg
theorem PR.rep2 {pf : Nat → Int32} {q : QS} {B f : Nat} (h : PR pf q B) (hf : f < 8) (hF : sF (qσ q) f = nI 0) : PR (upd pf 5 (pf 5 &&& ((nI 1 <<< (nI f &&& 31)) ^^^ (-1)))) q (bclr B f) := by
  obtain ⟨h0, h1, h2, h3, h4, h5, hB, hb⟩ := h
  have hk := bit_clr hB hf
  refine ⟨h0, h1, h2, h3, h4, ?_, hk.2, fun g hg => ?_⟩
  · show pf 5 &&& ((nI 1 <<< (nI f &&& 31)) ^^^ (-1)) = _
    rw [h5]; exact hk.1
  · rw [bits_clr hB hf hg]
    by_cases e : g = f
    · rw [if_pos e, e]; exact hF
    · rw [if_neg e]; exact hb g hg
