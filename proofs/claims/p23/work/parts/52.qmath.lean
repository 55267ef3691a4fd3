theorem inR_I {v : Int32} {lo hi : Nat} (h : inR v (nI lo) (nI hi)) (hl : lo < 2 ^ 31) (hh : hi < 2 ^ 31) : (lo : Int) ≤ v.toInt ∧ v.toInt ≤ (hi : Int) := by
  obtain ⟨h1, h2⟩ := h
  rw [Int32.lt_iff_toInt_lt, toI lo hl] at h1
  rw [Int32.le_iff_toInt_le, toI hi hh] at h2
  omega
theorem inR_N {v : Int32} {lo hi : Nat} (h : inR v (nI lo) (nI hi)) (hl : lo < 2 ^ 31) (hh : hi < 2 ^ 31) : ∃ z : Nat, v = nI z ∧ lo ≤ z ∧ z ≤ hi := by
  obtain ⟨h1, h2⟩ := inR_I h hl hh
  refine ⟨v.toInt.toNat, ?_, by omega, by omega⟩
  apply Int32.toInt_inj.mp
  rw [toI _ (by omega)]
  omega
/-! ===== one minute, part by part ===== -/
def SK (q : QS) : Prop := (∀ z, z < 6 → 0 ≤ (qLo q z).toInt ∧ (qLo q z).toInt ≤ 200) ∧ (∀ z, z < 6 → 1500 ≤ (qSe q z).toInt ∧ (qSe q z).toInt ≤ 3500) ∧ (∀ f z, f < 8 → z < 6 → 0 ≤ (qEf q f z).toInt ∧ (qEf q f z).toInt ≤ 100) ∧ (0 ≤ (qgp q).toInt ∧ (qgp q).toInt ≤ 200) ∧ (0 ≤ (qgi q).toInt ∧ (qgi q).toInt ≤ 200) ∧ (1000 ≤ (qam q).toInt ∧ (qam q).toInt ≤ 5000) ∧ (1000 ≤ (qli q).toInt ∧ (qli q).toInt ≤ 5000) ∧ qdl q < 9
def HK (σ : HS) : Prop := (∀ z, z < 6 → -50200 ≤ (sT σ z).toInt ∧ (sT σ z).toInt ≤ 17800) ∧ (∀ z, z < 6 → -20000 ≤ (sE σ z).toInt ∧ (sE σ z).toInt ≤ 20000) ∧ (∀ z, z < 6 → 0 ≤ (sD σ z).toInt ∧ (sD σ z).toInt ≤ 100) ∧ (∀ f, f < 8 → sF σ f = nI 0 ∨ sF σ f = nI 1) ∧ (∀ f, f < 8 → 0 ≤ (sS σ f).toInt ∧ (sS σ f).toInt ≤ 100) ∧ (∀ k f, k < 9 → f < 8 → 0 ≤ (sC σ k f).toInt ∧ (sC σ k f).toInt ≤ 100) ∧ sL σ < 9
section QST
variable {q : QS} {σ : HS} {z f k : Nat}
theorem st_E (hz : z < 6) : sE (qSt q σ) z = mEr (sT σ z) (sE σ z) (qSe q z) := mFl_lt _ _ hz
theorem st_D (hz : z < 6) : sD (qSt q σ) z = mRa (sF σ) (fun f => qEf q f z) (mWa (qgp q) (qgi q) (sT σ z) (qSe q z) (mEr (sT σ z) (sE σ z) (qSe q z))) := mFl_lt _ _ hz
theorem st_C (hf : f < 8) : sC (qSt q σ) ((sL σ + 1) % 9) f = mGd (qEf q f) (sD (qSt q σ)) 6 := by
  show va_up (sC σ) ((sL σ + 1) % 9) (mFl 8 (mG1 (qEf q) (sD (qSt q σ))) (sC σ ((sL σ + 1) % 9))) ((sL σ + 1) % 9) f = _
  rw [va_up_self, mFl_lt _ _ hf]
  rfl
theorem st_C2 (hk : ¬ k = (sL σ + 1) % 9) : sC (qSt q σ) k = sC σ k := va_up_ne _ _ hk
theorem st_S (hf : f < 8) : sS (qSt q σ) f = if sF σ f = 0 then sC (qSt q σ) (((sL σ + 1) % 9 + 9 - qdl q) % 9) f else nI 0 := mFl_lt _ _ hf
theorem st_T (hz : z < 6) : sT (qSt q σ) z = mTn (sT σ z) (qLo q z) (qam q) (mCo (qEf q) (sS (qSt q σ)) z 8) := mFl_lt _ _ hz
end QST
theorem co_b {Ef : Nat → Nat → Int32} {S : Nat → Int32} {z : Nat} (h3 : ∀ f, f < 8 → 0 ≤ (Ef f z).toInt ∧ (Ef f z).toInt ≤ 100) (hS : ∀ f, f < 8 → 0 ≤ (S f).toInt ∧ (S f).toInt ≤ 100) : 0 ≤ (mCo Ef S z 8).toInt ∧ (mCo Ef S z 8).toInt ≤ 80000 := by
  have h9 := mSum_b (g := fun f => Ef f z * S f) (B := 10000) (by omega) (n := 8) (by omega) (fun f hf => by
    have b1 := h3 f hf
    have b2 := hS f hf
    have b3 : ((Ef f z).toInt * (S f).toInt).natAbs ≤ 100 * 100 := mulB (by omega) (by omega)
    have b4 : 0 ≤ (Ef f z).toInt * (S f).toInt := Int.mul_nonneg b1.1 b2.1
    show 0 ≤ (Ef f z * S f).toInt ∧ (Ef f z * S f).toInt ≤ _
    rw [fb_mulI (by omega) (by omega)]
    omega)
  have h8 : (mCo Ef S z 8).toInt ≤ ((8 : Nat) : Int) * ((10000 : Nat) : Int) := h9.2
  exact ⟨h9.1, by omega⟩
theorem hs_step {q : QS} (hS : SK q) {σ : HS} (h : HK σ) : HK (qSt q σ) := by
  obtain ⟨s1, s2, s3, s4, s5, s6, s7, s8⟩ := hS
  obtain ⟨r1, r2, r3, r4, r5, r6, r7⟩ := h
  have hDb : ∀ z, z < 6 → 0 ≤ (sD (qSt q σ) z).toInt ∧ (sD (qSt q σ) z).toInt ≤ 100 := by
    intro z hz
    rw [st_D hz]
    exact (mRa_b (fun f hf => s3 f z hf hz) (mWa_b _ _ _ _ _)).1
  have hCb : ∀ k f, k < 9 → f < 8 → 0 ≤ (sC (qSt q σ) k f).toInt ∧ (sC (qSt q σ) k f).toInt ≤ 100 := by
    intro k f hk hf
    by_cases e : k = (sL σ + 1) % 9
    · rw [e, st_C hf]; exact mGd_b (n := 6) hDb
    · rw [st_C2 e]; exact r6 k f hk hf
  have hSb : ∀ f, f < 8 → 0 ≤ (sS (qSt q σ) f).toInt ∧ (sS (qSt q σ) f).toInt ≤ 100 := by
    intro f hf
    rw [st_S hf]
    split
    · exact hCb _ f (Nat.mod_lt _ (by decide)) hf
    · rw [e100.1]; omega
  refine ⟨fun z hz => ?_, fun z hz => ?_, hDb, r4, hSb, hCb, Nat.mod_lt _ (by decide)⟩
  · rw [st_T hz]; exact (mTn_m (r1 z hz) (s1 z hz) s6 (co_b (fun f hf => s3 f z hf hz) hSb)).2
  · rw [st_E hz]; exact mEr_b _ _ _
theorem hs_run {q : QS} (hS : SK q) {σ : HS} (h : HK σ) : ∀ n : Nat, HK (qRn q n σ)
  | 0 => h
  | n + 1 => hs_step hS (hs_run hS h n)
theorem hs_fail {σ : HS} {g : Nat} (h : HK σ) : HK (hFail σ g) := by
  obtain ⟨r1, r2, r3, r4, r5, r6, r7⟩ := h
  refine ⟨r1, r2, r3, fun f hf => ?_, fun f hf => ?_, r6, r7⟩
  · show upd (sF σ) g (nI 1) f = nI 0 ∨ upd (sF σ) g (nI 1) f = nI 1
    unfold upd
    split
    · exact Or.inr rfl
    · exact r4 f hf
  · show 0 ≤ (upd (sS σ) g (nI 0) f).toInt ∧ (upd (sS σ) g (nI 0) f).toInt ≤ 100
    unfold upd
    split
    · rw [e100.1]; omega
    · exact r5 f hf
/-! ===== what holds of the object between two calls ===== -/
def QOK (q : QS) : Prop := SK q ∧ HK (qσ q) ∧ sL (qσ q) = qK q % 9 ∧ (qK q < 9 → ∀ k f, k < 9 → f < 8 → (k = 0 ∨ qK q < k) → sC (qσ q) k f = nI 0) ∧ (∀ z, z < 6 → 0 ≤ (qHo q z).toInt ∧ (qHo q z).toInt ≤ (qK q : Int)) ∧ (∀ f, f < 8 → ¬ sF (qσ q) f = 0 → sS (qσ q) f = nI 0) ∧ qK q ≤ 100000
theorem QOK.la {q : QS} (h : QOK q) : sL (qσ q) < 9 := h.2.1.2.2.2.2.2.2
theorem QOK.dl {q : QS} (h : QOK q) : qdl q < 9 := h.1.2.2.2.2.2.2.2
theorem QOK.F {q : QS} (h : QOK q) : ∀ f, f < 8 → sF (qσ q) f = nI 0 ∨ sF (qσ q) f = nI 1 := h.2.1.2.2.2.1
theorem nI1 : (nI 1).toInt = 1 := by decide +kernel
theorem QOK.pass {q : QS} (h : QOK q) : ∀ n : Nat, qK q + n ≤ 100000 → QOK (qPass q n)
  | 0, _ => h
  | n + 1, hn => by
    obtain ⟨-, a2, a3, a4, a5, -, -⟩ := QOK.pass h n (by omega)
    have hS : SK q := h.1
    have a2 : HK (qRn q n (qσ q)) := a2
    have a3 : sL (qRn q n (qσ q)) = (qK q + n) % 9 := a3
    refine ⟨h.1, hs_step hS a2, ?_, ?_, ?_, ?_, hn⟩
    · show (sL (qRn q n (qσ q)) + 1) % 9 = (qK q + (n + 1)) % 9
      rw [a3]; omega
    · intro h9 k f hk hf hkk
      have h9 : qK q + (n + 1) < 9 := h9
      have hkk : k = 0 ∨ qK q + (n + 1) < k := hkk
      show sC (qSt q (qRn q n (qσ q))) k f = nI 0
      rw [st_C2 (by rw [a3]; omega)]
      exact a4 (by show qK q + n < 9; omega) k f hk hf (by show k = 0 ∨ qK q + n < k; omega)
    · intro z hz
      show 0 ≤ (mFl 6 (mHo (qli q) (sT (qRn q (n + 1) (qσ q))) (pHo (qli q) (fun k => sT (qRn q k (qσ q))) (qHo q) n)) (pHo (qli q) (fun k => sT (qRn q k (qσ q))) (qHo q) n) z).toInt ∧ (mFl 6 (mHo (qli q) (sT (qRn q (n + 1) (qσ q))) (pHo (qli q) (fun k => sT (qRn q k (qσ q))) (qHo q) n)) (pHo (qli q) (fun k => sT (qRn q k (qσ q))) (qHo q) n) z).toInt ≤ ((qK q + (n + 1) : Nat) : Int)
      rw [mFl_lt _ _ hz]
      have b : 0 ≤ (pHo (qli q) (fun k => sT (qRn q k (qσ q))) (qHo q) n z).toInt ∧ (pHo (qli q) (fun k => sT (qRn q k (qσ q))) (qHo q) n z).toInt ≤ ((qK q + n : Nat) : Int) := a5 z hz
      unfold mHo
      split
      · omega
      · rw [fb_addI (by rw [nI1]; omega) (by rw [nI1]; omega), nI1]; omega
    · intro f hf hF
      have hF : ¬ sF (qRn q n (qσ q)) f = 0 := hF
      show sS (qSt q (qRn q n (qσ q))) f = nI 0
      rw [st_S hf, if_neg hF]
theorem QOK.load {q : QS} {z : Nat} {v : Int32} (h : QOK q) (hv : inR v (nI 0) (nI 200)) : QOK (qsLoad q z v) := by
  obtain ⟨⟨s1, s2, s3, s4, s5, s6, s7, s8⟩, h3⟩ := h
  refine ⟨⟨fun k hk => ?_, s2, s3, s4, s5, s6, s7, s8⟩, h3⟩
  show 0 ≤ (upd (qLo q) z v k).toInt ∧ (upd (qLo q) z v k).toInt ≤ 200
  unfold upd
  split
  · have := inR_I hv (by decide) (by decide); omega
  · exact s1 k hk
theorem QOK.set {q : QS} {z : Nat} {v : Int32} (h : QOK q) (hv : inR v (nI 1500) (nI 3500)) : QOK (qsSet q z v) := by
  obtain ⟨⟨s1, s2, s3, s4, s5, s6, s7, s8⟩, ⟨r1, r2, r3, r4, r5, r6, r7⟩, h3⟩ := h
  refine ⟨⟨s1, fun k hk => ?_, s3, s4, s5, s6, s7, s8⟩, ⟨r1, fun k hk => ?_, r3, r4, r5, r6, r7⟩, h3⟩
  · show 1500 ≤ (upd (qSe q) z v k).toInt ∧ (upd (qSe q) z v k).toInt ≤ 3500
    unfold upd
    split
    · have := inR_I hv (by decide) (by decide); omega
    · exact s2 k hk
  · show -20000 ≤ (upd (sE (qσ q)) z (nI 0) k).toInt ∧ (upd (sE (qσ q)) z (nI 0) k).toInt ≤ 20000
    unfold upd
    split
    · rw [e100.1]; omega
    · exact r2 k hk
theorem QOK.eff {q : QS} {f z : Nat} {v : Int32} (h : QOK q) (hv : inR v (nI 0) (nI 100)) : QOK (qsEff q f z v) := by
  obtain ⟨⟨s1, s2, s3, s4, s5, s6, s7, s8⟩, h3⟩ := h
  refine ⟨⟨s1, s2, fun g k hg hk => ?_, s4, s5, s6, s7, s8⟩, h3⟩
  show 0 ≤ (va_up (qEf q) f (upd (qEf q f) z v) g k).toInt ∧ (va_up (qEf q) f (upd (qEf q f) z v) g k).toInt ≤ 100
  by_cases e : g = f
  · subst e
    rw [va_up_self]
    unfold upd
    split
    · have := inR_I hv (by decide) (by decide); omega
    · exact s3 g k hg hk
  · rw [va_up_ne _ _ e]; exact s3 g k hg hk
theorem QOK.gains {q : QS} {v w : Int32} (h : QOK q) (hv : inR v (nI 0) (nI 200)) (hw : inR w (nI 0) (nI 200)) : QOK (qsGains q v w) := by
  obtain ⟨⟨s1, s2, s3, s4, s5, s6, s7, s8⟩, h3⟩ := h
  exact ⟨⟨s1, s2, s3, inR_I hv (by decide) (by decide), inR_I hw (by decide) (by decide), s6, s7, s8⟩, h3⟩
theorem QOK.hall {q : QS} {v w : Int32} (h : QOK q) (hv : inR v (nI 1000) (nI 5000)) (hw : inR w (nI 1000) (nI 5000)) : QOK (qsHall q v w) := by
  obtain ⟨⟨s1, s2, s3, s4, s5, s6, s7, s8⟩, h3⟩ := h
  exact ⟨⟨s1, s2, s3, s4, s5, inR_I hv (by decide) (by decide), inR_I hw (by decide) (by decide), s8⟩, h3⟩
theorem QOK.delay {q : QS} {d : Nat} (h : QOK q) (hd : d < 9) : QOK (qsDelay q d) := by
  obtain ⟨⟨s1, s2, s3, s4, s5, s6, s7, s8⟩, h3⟩ := h
  exact ⟨⟨s1, s2, s3, s4, s5, s6, s7, hd⟩, h3⟩
theorem QOK.fail {q : QS} {g : Nat} (h : QOK q) : QOK (qsFail q g) := by
  obtain ⟨h1, h2, h3, h4, h5, h6, h7⟩ := h
  refine ⟨h1, hs_fail h2, h3, h4, h5, fun f hf hF => ?_, h7⟩
  have hF : ¬ upd (sF (qσ q)) g (nI 1) f = 0 := hF
  show upd (sS (qσ q)) g (nI 0) f = nI 0
  unfold upd at hF ⊢
  split
  · rfl
  · rename_i e
    rw [if_neg e] at hF
    exact h6 f hf hF
theorem QOK.rep {q : QS} {g : Nat} (h : QOK q) : QOK (qsRep q g) := by
  obtain ⟨h1, ⟨r1, r2, r3, r4, r5, r6, r7⟩, h3, h4, h5, h6, h7⟩ := h
  refine ⟨h1, ⟨r1, r2, r3, fun f hf => ?_, r5, r6, r7⟩, h3, h4, h5, fun f hf hF => ?_, h7⟩
  · show upd (sF (qσ q)) g (nI 0) f = nI 0 ∨ upd (sF (qσ q)) g (nI 0) f = nI 1
    unfold upd
    split
    · exact Or.inl rfl
    · exact r4 f hf
  · have hF : ¬ upd (sF (qσ q)) g (nI 0) f = 0 := hF
    show sS (qσ q) f = nI 0
    unfold upd at hF
    split at hF
    · exact absurd nI_0 hF
    · exact h6 f hf hF
/-! ===== what would be ===== -/
theorem mMax_geL (x y : Int32) : x ≤ mMax x y := by
  unfold mMax
  split
  · rename_i h; rw [Int32.lt_iff_toInt_lt] at h; rw [Int32.le_iff_toInt_le]; omega
  · rw [Int32.le_iff_toInt_le]; omega
theorem i_tr {x y z : Int32} (h1 : x ≤ y) (h2 : y ≤ z) : x ≤ z := by
  rw [Int32.le_iff_toInt_le] at h1 h2 ⊢; omega
theorem i_rf (x : Int32) : x ≤ x := by rw [Int32.le_iff_toInt_le]; omega
theorem gT_up (f : Nat → Int32) (m : Nat) : gTop f m ≤ gTop f (m + 1) := mMax_geL _ _
theorem gT_le (f : Nat → Int32) (m : Nat) : ∀ d : Nat, gTop f m ≤ gTop f (m + d)
  | 0 => i_rf _
  | d + 1 => i_tr (gT_le f m d) (gT_up f (m + d))
theorem gT_b {f : Nat → Int32} {lo hi : Int} (h : ∀ k, lo ≤ (f k).toInt ∧ (f k).toInt ≤ hi) : ∀ m : Nat, lo ≤ (gTop f m).toInt ∧ (gTop f m).toInt ≤ hi
  | 0 => h 0
  | m + 1 => by
    have h1 := gT_b h m
    show lo ≤ (mMax (gTop f m) (f (m + 1))).toInt ∧ (mMax (gTop f m) (f (m + 1))).toInt ≤ hi
    unfold mMax
    split
    · exact h (m + 1)
    · exact h1
theorem g_b {q : QS} (hS : SK q) {σ : HS} (h : HK σ) {z : Nat} (hz : z < 6) (m : Nat) : -50200 ≤ (gOf (qgp q) (qgi q) (qam q) (qLo q) (qSe q) (qEf q) (qdl q) σ z m).toInt ∧ (gOf (qgp q) (qgi q) (qam q) (qLo q) (qSe q) (qEf q) (qdl q) σ z m).toInt ≤ 17800 :=
  gT_b (fun k => (hs_run hS h (k + 1)).1 z hz) m
theorem crit_sp (F g : Nat → Int32) : ∀ n : Nat, n ≤ 8 → ((crit F g n).1 = (-1) ∧ ∀ f, f < n → ¬ F f = 0) ∨ ∃ f0, f0 < n ∧ F f0 = 0 ∧ (crit F g n).1 = nI f0 ∧ (crit F g n).2 = g f0 ∧ ∀ f, f < n → F f = 0 → g f ≤ g f0
  | 0, _ => Or.inl ⟨rfl, fun f hf => absurd hf (Nat.not_lt_zero f)⟩
  | n + 1, hn => by
    have ih := crit_sp F g n (by omega)
    by_cases h : F n = 0
    · rcases ih with ⟨e1, e2⟩ | ⟨f0, e1, e2, e3, e4, e5⟩
      · rw [crit_b F g n h e1]
        refine Or.inr ⟨n, by omega, h, rfl, rfl, fun f hf hF => ?_⟩
        by_cases e : f = n
        · rw [e]; exact i_rf _
        · exact absurd hF (e2 f (by omega))
      · have h2 : ¬ (crit F g n).1 = (-1) := by rw [e3]; exact nI_m1 (by omega)
        by_cases h3 : g n ≤ (crit F g n).2
        · rw [crit_c F g n h h2 h3]
          refine Or.inr ⟨f0, by omega, e2, e3, e4, fun f hf hF => ?_⟩
          by_cases e : f = n
          · rw [e, ← e4]; exact h3
          · exact e5 f (by omega) hF
        · rw [crit_d F g n h h2 h3]
          refine Or.inr ⟨n, by omega, h, rfl, rfl, fun f hf hF => ?_⟩
          by_cases e : f = n
          · rw [e]; exact i_rf _
          · refine i_tr (e5 f (by omega) hF) ?_
            rw [e4] at h3
            rw [Int32.le_iff_toInt_le] at h3 ⊢
            omega
    · rw [crit_a F g n h]
      rcases ih with ⟨e1, e2⟩ | ⟨f0, e1, e2, e3, e4, e5⟩
      · refine Or.inl ⟨e1, fun f hf => ?_⟩
        by_cases e : f = n
        · rw [e]; exact h
        · exact e2 f (by omega)
      · refine Or.inr ⟨f0, by omega, e2, e3, e4, fun f hf hF => ?_⟩
        by_cases e : f = n
        · rw [e] at hF; exact absurd hF h
        · exact e5 f (by omega) hF
/-- the fan that matters most, and the margin -/
theorem cr_sp (q : QS) (z m : Nat) : (qCr q z m = (-1) ∧ (∀ f, f < 8 → ¬ sF (qσ q) f = 0) ∧ qM q z m = qli q - qE q z m) ∨ ∃ f0, f0 < 8 ∧ sF (qσ q) f0 = 0 ∧ qCr q z m = nI f0 ∧ qM q z m = qli q - qE (qsFail q f0) z m ∧ ∀ f, f < 8 → sF (qσ q) f = 0 → qE (qsFail q f) z m ≤ qE (qsFail q f0) z m := by
  rcases crit_sp (sF (qσ q)) (fun f => gOf (qgp q) (qgi q) (qam q) (qLo q) (qSe q) (qEf q) (qdl q) (hFail (qσ q) f) z m) 8 (Nat.le_refl 8) with ⟨e1, e2⟩ | ⟨f0, e1, e2, e3, e4, e5⟩
  · refine Or.inl ⟨e1, e2, ?_⟩
    unfold qM
    rw [e1]
    unfold gAny
    rw [if_pos rfl]
    rfl
  · refine Or.inr ⟨f0, e1, e2, e3, ?_, e5⟩
    unfold qM
    rw [e3, gAny_f (by omega)]
    rfl
theorem sub_le {l x y : Int32} (hl : 1000 ≤ l.toInt ∧ l.toInt ≤ 5000) (hx : -50200 ≤ x.toInt ∧ x.toInt ≤ 17800) (hy : -50200 ≤ y.toInt ∧ y.toInt ≤ 17800) (h : x ≤ y) : l - y ≤ l - x := by
  rw [Int32.le_iff_toInt_le] at h ⊢
  rw [fb_subI (by omega) (by omega), fb_subI (by omega) (by omega)]
  omega
theorem qE_b {q : QS} (h : QOK q) {z : Nat} (hz : z < 6) (m : Nat) : -50200 ≤ (qE q z m).toInt ∧ (qE q z m).toInt ≤ 17800 := g_b h.1 h.2.1 hz m
theorem qEf_b {q : QS} (h : QOK q) (f : Nat) {z : Nat} (hz : z < 6) (m : Nat) : -50200 ≤ (qE (qsFail q f) z m).toInt ∧ (qE (qsFail q f) z m).toInt ≤ 17800 := g_b (q := q) h.1 (hs_fail h.2.1) hz m
theorem qE_up (q : QS) (z m : Nat) : qE q z m ≤ qE q z (m + 1) := gT_up _ m
theorem qE_le (q : QS) (z m d : Nat) : qE q z m ≤ qE q z (m + d) := gT_le _ m d
theorem qM_dn {q : QS} (h : QOK q) {z : Nat} (hz : z < 6) (m : Nat) : qM q z (m + 1) ≤ qM q z m := by
  have hl := h.1.2.2.2.2.2.2.1
  rcases cr_sp q z m with ⟨-, a2, a3⟩ | ⟨f0, a1, a2, -, a4, a5⟩
  · rcases cr_sp q z (m + 1) with ⟨-, -, b3⟩ | ⟨g0, b1, b2, -⟩
    · rw [a3, b3]; exact sub_le hl (qE_b h hz m) (qE_b h hz (m + 1)) (qE_up q z m)
    · exact absurd b2 (a2 g0 b1)
  · rcases cr_sp q z (m + 1) with ⟨-, b2, -⟩ | ⟨g0, b1, b2, -, b4, b5⟩
    · exact absurd a2 (b2 f0 a1)
    · rw [a4, b4]
      exact sub_le hl (qEf_b h f0 hz m) (qEf_b h g0 hz (m + 1)) (i_tr (qE_up (qsFail q f0) z m) (b5 f0 a1 a2))
theorem qM_fail {q : QS} (h : QOK q) {z f : Nat} (hz : z < 6) (hf : f < 8) (hF : sF (qσ q) f = 0) (m : Nat) : qM q z m ≤ qli q - qE (qsFail q f) z m ∧ (nI f = qCr q z m → qM q z m = qli q - qE (qsFail q f) z m) := by
  have hl := h.1.2.2.2.2.2.2.1
  rcases cr_sp q z m with ⟨-, a2, -⟩ | ⟨f0, a1, a2, a3, a4, a5⟩
  · exact absurd hF (a2 f hf)
  · refine ⟨?_, fun e => ?_⟩
    · rw [a4]; exact sub_le hl (qEf_b h f hz m) (qEf_b h f0 hz m) (a5 f hf hF)
    · rw [a3, nI_eq (by omega) (by omega)] at e
      rw [a4, e]
theorem cr_rng (q : QS) (z m : Nat) : ¬ qCr q z m < (-1) ∧ ¬ nI 8 ≤ qCr q z m := by
  rcases cr_sp q z m with ⟨a1, -⟩ | ⟨f0, a1, -, a3, -⟩
  · rw [a1]; decide +kernel
  · rw [a3]
    exact ⟨fun c => by
      rw [Int32.lt_iff_toInt_lt, toI f0 (by omega), show ((-1 : Int32)).toInt = -1 from by decide +kernel] at c; omega, nI_ge a1 (by decide)⟩
theorem mBest_sp (T : Nat → Int32) : ∀ n : Nat, (∀ z, z ≤ n → T z ≤ T (mBest T n)) ∧ (∀ z, z ≤ n → T z < T (mBest T n) ∨ mBest T n ≤ z)
  | 0 => ⟨fun z hz => by rw [show z = 0 by omega]; exact i_rf _, fun z hz => Or.inr (Nat.zero_le z)⟩
  | n + 1 => by
    obtain ⟨h1, h2⟩ := mBest_sp T n
    have h3 := mBest_le T n
    by_cases c : T (n + 1) ≤ T (mBest T n)
    · rw [mBest_t T n c]
      refine ⟨fun z hz => ?_, fun z hz => ?_⟩
      · by_cases e : z = n + 1
        · rw [e]; exact c
        · exact h1 z (by omega)
      · by_cases e : z = n + 1
        · exact Or.inr (by omega)
        · exact h2 z (by omega)
    · rw [mBest_f T n c]
      refine ⟨fun z hz => ?_, fun z hz => ?_⟩
      · by_cases e : z = n + 1
        · rw [e]; exact i_rf _
        · have := h1 z (by omega)
          rw [Int32.le_iff_toInt_le] at this c ⊢
          omega
      · by_cases e : z = n + 1
        · exact Or.inr (by omega)
        · refine Or.inl ?_
          have := h1 z (by omega)
          rw [Int32.le_iff_toInt_le] at this c
          rw [Int32.lt_iff_toInt_lt]
          omega
/-! ===== fans that run ===== -/
def rn (F : Nat → Int32) : Nat → Int32
  | 0 => nI 8
  | n + 1 => rn F n - F n
theorem mCnt_b (F : Nat → Int32) : ∀ n : Nat, n ≤ 8 → 0 ≤ (mCnt F n).toInt ∧ (mCnt F n).toInt ≤ n
  | 0, _ => by show 0 ≤ (nI 0).toInt ∧ (nI 0).toInt ≤ _; rw [e100.1]; omega
  | n + 1, hn => by
    have ih := mCnt_b F n (by omega)
    have h1 : (1 : Int32).toInt = 1 := by decide +kernel
    by_cases h : F n = 0
    · rw [mCnt_t F n h, fb_addI (by rw [h1]; omega) (by rw [h1]; omega), h1]; omega
    · rw [mCnt_f F n h]; omega
theorem rn_I {F : Nat → Int32} (hF : ∀ f, f < 8 → F f = nI 0 ∨ F f = nI 1) : ∀ n : Nat, n ≤ 8 → (rn F n).toInt = 8 - n + (mCnt F n).toInt
  | 0, _ => by show (nI 8).toInt = 8 - 0 + (nI 0).toInt; decide +kernel
  | n + 1, hn => by
    have ih := rn_I hF n (by omega)
    have hb := mCnt_b F n (by omega)
    have h1 : (1 : Int32).toInt = 1 := by decide +kernel
    show (rn F n - F n).toInt = _
    rcases hF n (by omega) with h | h
    · rw [mCnt_t F n (h.trans nI_0), h, fb_subI (by rw [e100.1]; omega) (by rw [e100.1]; omega), fb_addI (by rw [h1]; omega) (by rw [h1]; omega), e100.1, h1]; omega
    · rw [mCnt_f F n (by rw [h]; decide +kernel), h, fb_subI (by rw [nI1]; omega) (by rw [nI1]; omega), nI1]; omega
theorem rn_8 {F : Nat → Int32} (hF : ∀ f, f < 8 → F f = nI 0 ∨ F f = nI 1) : rn F 8 = mCnt F 8 := by
  apply Int32.toInt_inj.mp
  rw [rn_I hF 8 (Nat.le_refl 8)]
  omega
theorem mCnt_0 {F : Nat → Int32} : ∀ n : Nat, (∀ f, f < n → ¬ F f = 0) → mCnt F n = nI 0
  | 0, _ => rfl
  | n + 1, h => by rw [mCnt_f F n (h n (by omega))]; exact mCnt_0 n (fun f hf => h f (by omega))
theorem mCnt_p {F : Nat → Int32} {f : Nat} (hF : F f = 0) : ∀ n : Nat, n ≤ 8 → f < n → 1 ≤ (mCnt F n).toInt
  | 0, _, h => absurd h (Nat.not_lt_zero f)
  | n + 1, hn, h => by
    have h1 : (1 : Int32).toInt = 1 := by decide +kernel
    have hb := mCnt_b F n (by omega)
    by_cases e : f = n
    · subst e
      rw [mCnt_t F f hF, fb_addI (by rw [h1]; omega) (by rw [h1]; omega), h1]; omega
    · have ih := mCnt_p hF n (by omega) (by omega)
      by_cases g : F n = 0
      · rw [mCnt_t F n g, fb_addI (by rw [h1]; omega) (by rw [h1]; omega), h1]; omega
      · rw [mCnt_f F n g]; exact ih
theorem mCnt_n0 {F : Nat → Int32} {f : Nat} (hF : F f = 0) (hf : f < 8) : ¬ mCnt F 8 = 0 := fun e => by
  have h := mCnt_p hF 8 (Nat.le_refl 8) hf
  rw [e, Int32.toInt_zero] at h
  omega
/-! ===== the law's rows p, e, z ===== -/
def PR (pf : Nat → Int32) (q : QS) (B : Nat) : Prop := pf 0 = qgp q ∧ pf 1 = qgi q ∧ pf 2 = qam q ∧ pf 3 = qli q ∧ pf 4 = nI (qdl q) ∧ pf 5 = nI B ∧ B < 256 ∧ ∀ f, f < 8 → sF (qσ q) f = nI (B / 2 ^ f % 2)
def ER (ef : Nat → Int32) (q : QS) : Prop := ∀ f z, f < 8 → z < 6 → ef (6 * f + z) = qEf q f z
def ZR (zf : Nat → Int32) (q : QS) : Prop := ∀ z, z < 6 → zf z = qLo q z ∧ zf (6 + z) = qSe q z
theorem bit_at {B f : Nat} (hB : B < 256) (hf : f < 8) : (nI B >>> (nI f &&& 31)) &&& nI 1 = nI (B / 2 ^ f % 2) := by
  have key : ∀ (B : Fin 256) (f : Fin 8), (nI B.val >>> (nI f.val &&& 31)) &&& nI 1 = nI (B.val / 2 ^ f.val % 2) := by decide +kernel
  exact key ⟨B, hB⟩ ⟨f, hf⟩
theorem bit_or {B f : Nat} (hB : B < 256) (hf : f < 8) : nI B ||| (nI 1 <<< (nI f &&& 31)) = nI (B ||| 2 ^ f) ∧ B ||| 2 ^ f < 256 := by
  have key : ∀ (B : Fin 256) (f : Fin 8), nI B.val ||| (nI 1 <<< (nI f.val &&& 31)) = nI (B.val ||| 2 ^ f.val) ∧ B.val ||| 2 ^ f.val < 256 := by decide +kernel
  exact key ⟨B, hB⟩ ⟨f, hf⟩
def bclr (B f : Nat) : Nat := if B / 2 ^ f % 2 = 1 then B - 2 ^ f else B
theorem bit_clr {B f : Nat} (hB : B < 256) (hf : f < 8) : nI B &&& ((nI 1 <<< (nI f &&& 31)) ^^^ (-1)) = nI (bclr B f) ∧ bclr B f < 256 := by
  have key : ∀ (B : Fin 256) (f : Fin 8), nI B.val &&& ((nI 1 <<< (nI f.val &&& 31)) ^^^ (-1)) = nI (bclr B.val f.val) ∧ bclr B.val f.val < 256 := by decide +kernel
  exact key ⟨B, hB⟩ ⟨f, hf⟩
theorem bits_or {B f g : Nat} (hB : B < 256) (hf : f < 8) (hg : g < 8) : (B ||| 2 ^ f) / 2 ^ g % 2 = if g = f then 1 else B / 2 ^ g % 2 := by
  have key : ∀ (B : Fin 256) (f g : Fin 8), (B.val ||| 2 ^ f.val) / 2 ^ g.val % 2 = if g.val = f.val then 1 else B.val / 2 ^ g.val % 2 := by decide +kernel
  exact key ⟨B, hB⟩ ⟨f, hf⟩ ⟨g, hg⟩
theorem bits_clr {B f g : Nat} (hB : B < 256) (hf : f < 8) (hg : g < 8) : bclr B f / 2 ^ g % 2 = if g = f then 0 else B / 2 ^ g % 2 := by
  have key : ∀ (B : Fin 256) (f g : Fin 8), bclr B.val f.val / 2 ^ g.val % 2 = if g.val = f.val then 0 else B.val / 2 ^ g.val % 2 := by decide +kernel
  exact key ⟨B, hB⟩ ⟨f, hf⟩ ⟨g, hg⟩
theorem PR.bit {pf : Nat → Int32} {q : QS} {B f : Nat} (h : PR pf q B) (hf : f < 8) : (pf 5 >>> (nI f &&& 31)) &&& nI 1 = sF (qσ q) f := by
  obtain ⟨-, -, -, -, -, h5, hB, hb⟩ := h
  rw [h5, bit_at hB hf, hb f hf]
theorem PR.fail {pf : Nat → Int32} {q : QS} {B f : Nat} (h : PR pf q B) (hf : f < 8) : PR (upd pf 5 (pf 5 ||| (nI 1 <<< (nI f &&& 31)))) (qsFail q f) (B ||| 2 ^ f) := by
  obtain ⟨h0, h1, h2, h3, h4, h5, hB, hb⟩ := h
  have hk := bit_or hB hf
  refine ⟨h0, h1, h2, h3, h4, ?_, hk.2, fun g hg => ?_⟩
  · show pf 5 ||| (nI 1 <<< (nI f &&& 31)) = _
    rw [h5]; exact hk.1
  · show upd (sF (qσ q)) f (nI 1) g = _
    rw [bits_or hB hf hg]
    unfold upd
    by_cases e : g = f
    · rw [if_pos e, if_pos e]
    · rw [if_neg e, if_neg e]; exact hb g hg
theorem PR.rep {pf : Nat → Int32} {q : QS} {B f : Nat} (h : PR pf q B) (hf : f < 8) : PR (upd pf 5 (pf 5 &&& ((nI 1 <<< (nI f &&& 31)) ^^^ (-1)))) (qsRep q f) (bclr B f) := by
  obtain ⟨h0, h1, h2, h3, h4, h5, hB, hb⟩ := h
  have hk := bit_clr hB hf
  refine ⟨h0, h1, h2, h3, h4, ?_, hk.2, fun g hg => ?_⟩
  · show pf 5 &&& ((nI 1 <<< (nI f &&& 31)) ^^^ (-1)) = _
    rw [h5]; exact hk.1
  · show upd (sF (qσ q)) f (nI 0) g = _
    rw [bits_clr hB hf hg]
    unfold upd
    by_cases e : g = f
    · rw [if_pos e, if_pos e]
    · rw [if_neg e, if_neg e]; exact hb g hg
