/-! ===== signed ints as whole numbers ===== -/
theorem fb_rng (x : Int32) : -2147483648 ≤ x.toInt ∧ x.toInt < 2147483648 := by
  have h1 := Int32.le_toInt x
  have h2 := Int32.toInt_lt x
  omega
theorem fb_bmod {z : Int} (h1 : -2147483648 ≤ z) (h2 : z < 2147483648) : z.bmod (2 ^ 32) = z := by
  rw [Int.bmod_eq_of_le (by omega) (by omega)]
theorem fb_addI {x y : Int32} (h1 : -2147483648 ≤ x.toInt + y.toInt) (h2 : x.toInt + y.toInt < 2147483648) : (x + y).toInt = x.toInt + y.toInt := by
  rw [Int32.toInt_add, fb_bmod h1 h2]
theorem fb_subI {x y : Int32} (h1 : -2147483648 ≤ x.toInt - y.toInt) (h2 : x.toInt - y.toInt < 2147483648) : (x - y).toInt = x.toInt - y.toInt := by
  rw [Int32.toInt_sub, fb_bmod h1 h2]
theorem fb_mulI {x y : Int32} (h1 : -2147483648 ≤ x.toInt * y.toInt) (h2 : x.toInt * y.toInt < 2147483648) : (x * y).toInt = x.toInt * y.toInt := by
  rw [Int32.toInt_mul, fb_bmod h1 h2]
theorem fb_negI {x : Int32} (h : x.toInt ≠ -2147483648) : (-x).toInt = -x.toInt := by
  have := fb_rng x
  rw [Int32.toInt_neg, fb_bmod (by omega) (by omega)]
theorem mulB {a b : Int} {A B : Nat} (ha : a.natAbs ≤ A) (hb : b.natAbs ≤ B) : (a * b).natAbs ≤ A * B := by
  rw [Int.natAbs_mul]; exact Nat.mul_le_mul ha hb
theorem toI (n : Nat) (h : n < 2 ^ 31) : (nI n).toInt = (n : Int) := nI_toInt h
theorem mDiv {x y : Int32} (hy : 0 < y.toInt) : (x / y).toInt = x.toInt.tdiv y.toInt := by
  rw [Int32.toInt_div_of_ne_right]
  intro e
  rw [e] at hy
  exact absurd hy (by decide)
theorem mSg (z : Int32) : 0 ≤ z ↔ z.toBitVec.msb = false := by
  rw [Int32.le_iff_toInt_le, BitVec.msb_eq_toInt, Int32.toInt_toBitVec, Int32.toInt_zero, decide_eq_false_iff_not]
  omega
theorem mXs {x y : Int32} (hy : 0 < y.toInt) : 0 ≤ x ^^^ y ↔ 0 ≤ x.toInt := by
  have e1 : (x ^^^ y).toBitVec = x.toBitVec ^^^ y.toBitVec := rfl
  have hy0 : y.toBitVec.msb = false := (mSg y).mp (by rw [Int32.le_iff_toInt_le, Int32.toInt_zero]; omega)
  rw [mSg, e1, BitVec.msb_xor, hy0, Bool.xor_false, ← mSg, Int32.le_iff_toInt_le, Int32.toInt_zero]
theorem mFd_pos {x y : Int32} (hx : 0 ≤ x.toInt) (hy : 0 < y.toInt) : mFd x y = x / y := if_pos ((mXs hy).mpr hx)
theorem mFd_I {x y : Int32} (hy : 0 < y.toInt) : (mFd x y).toInt = x.toInt / y.toInt := by
  unfold mFd
  by_cases h : 0 ≤ x ^^^ y
  · rw [if_pos h, mDiv hy, Int.tdiv_eq_ediv_of_nonneg ((mXs hy).mp h)]
  · rw [if_neg h]
    have hx : x.toInt < 0 := by
      have := mt (mXs hy).mpr h
      omega
    have hr := fb_rng x
    have hq : (x / y).toInt = x.toInt / y.toInt + if 0 ≤ x.toInt ∨ y.toInt ∣ x.toInt then 0 else (y.toInt).sign := by rw [mDiv hy, Int.tdiv_eq_ediv]
    have hs : y.toInt.sign = 1 := Int.sign_eq_one_of_pos hy
    have hf : x.toInt / y.toInt < 0 := Int.ediv_neg_of_neg_of_pos hx hy
    have hq0 : (x / y).toInt ≤ 0 := by
      rw [hq, hs]
      split <;> omega
    have hn : ((x / y).toInt * y.toInt).natAbs ≤ x.toInt.natAbs := by
      rw [mDiv hy, Int.natAbs_mul, Int.natAbs_tdiv]
      exact Nat.div_mul_le_self _ _
    have hu : (x / y).toInt * y.toInt ≤ 0 := Int.mul_nonpos_of_nonpos_of_nonneg hq0 (Int.le_of_lt hy)
    have hm : (x / y * y).toInt = (x / y).toInt * y.toInt := fb_mulI (by omega) (by omega)
    by_cases d : y.toInt ∣ x.toInt
    · rw [if_pos (Or.inr d), Int.add_zero] at hq
      have e : x / y * y = x := by
        apply Int32.toInt_inj.mp
        rw [hm, hq]
        exact Int.ediv_mul_cancel d
      rw [if_pos e, hq]
    · rw [if_neg (by rintro (q | q); exact absurd q (by omega); exact d q), hs] at hq
      have e : ¬ x / y * y = x := by
        intro q
        apply d
        have h1 := congrArg Int32.toInt q
        rw [hm] at h1
        exact ⟨(x / y).toInt, by rw [← h1, Int.mul_comm]⟩
      have h1 : (1 : Int32).toInt = 1 := by decide +kernel
      have hb := fb_rng (x / y)
      have hxy : x.toInt ≤ x.toInt / y.toInt := Int.le_ediv_of_mul_le hy (by
        have : x.toInt * y.toInt ≤ x.toInt * 1 := Int.mul_le_mul_of_nonpos_left (by omega) (by omega)
        omega)
      rw [if_neg e, fb_subI (by rw [h1]; omega) (by rw [h1]; omega), hq, h1]
      omega
theorem qPart_I {v : Int32} {c : Nat} (hc : c = 100 ∨ c = 64) (h : -2147000000 ≤ v.toInt) : (qPart v (nI c)).toInt = v.toInt / (c : Int) := by
  have hr := fb_rng v
  have hcI : (nI c).toInt = (c : Int) := toI c (by omega)
  unfold qPart
  by_cases hv : v < 0
  · rw [if_pos hv]
    rw [Int32.lt_iff_toInt_lt, Int32.toInt_zero] at hv
    have h1 : (nI 1).toInt = 1 := by decide +kernel
    have e1 : (nI c - nI 1).toInt = (c : Int) - 1 := by rw [fb_subI (by rw [hcI, h1]; omega) (by rw [hcI, h1]; omega), hcI, h1]
    have e2 : (nI c - nI 1 - v).toInt = (c : Int) - 1 - v.toInt := by rw [fb_subI (by rw [e1]; omega) (by rw [e1]; omega), e1]
    have e3 : ((nI c - nI 1 - v) / nI c).toInt = ((c : Int) - 1 - v.toInt) / (c : Int) := by
      rw [mDiv (by rw [hcI]; omega), e2, hcI, Int.tdiv_eq_ediv_of_nonneg (by omega)]
    rcases hc with rfl | rfl
    · rw [fb_negI (by rw [e3]; omega), e3]; omega
    · rw [fb_negI (by rw [e3]; omega), e3]; omega
  · rw [if_neg hv]
    have hv : 0 ≤ v.toInt := by
      have h9 := mt Int32.lt_iff_toInt_lt.mpr hv
      rw [Int32.toInt_zero] at h9
      omega
    rw [mDiv (by rw [hcI]; omega), hcI, Int.tdiv_eq_ediv_of_nonneg hv]
theorem qPart_m {v : Int32} {c : Nat} (hc : c = 100 ∨ c = 64) (h : -2147000000 ≤ v.toInt) : qPart v (nI c) = mFd v (nI c) := by
  have hcI : (nI c).toInt = (c : Int) := toI c (by omega)
  apply Int32.toInt_inj.mp
  rw [qPart_I hc h, mFd_I (by rw [hcI]; omega), hcI]
theorem mHold_I (v lo hi : Int32) (h : lo.toInt ≤ hi.toInt) : (mHold v lo hi).toInt = if v.toInt < lo.toInt then lo.toInt else if hi.toInt < v.toInt then hi.toInt else v.toInt := by
  unfold mHold mMax mMin
  simp only [Int32.lt_iff_toInt_lt]
  by_cases h1 : v.toInt < hi.toInt
  · simp only [if_pos h1]
    by_cases h2 : lo.toInt < v.toInt
    · rw [if_pos h2]; split <;> (try split) <;> omega
    · rw [if_neg h2]; split <;> (try split) <;> omega
  · simp only [if_neg h1]
    by_cases h2 : lo.toInt < hi.toInt
    · rw [if_pos h2]; split <;> (try split) <;> omega
    · rw [if_neg h2]; split <;> (try split) <;> omega
theorem qHeld_I (v lo hi : Int32) (h : lo.toInt ≤ hi.toInt) : (qHeld v lo hi).toInt = if v.toInt < lo.toInt then lo.toInt else if hi.toInt < v.toInt then hi.toInt else v.toInt := by
  unfold qHeld
  simp only [Int32.le_iff_toInt_le]
  by_cases h1 : lo.toInt ≤ v.toInt
  · rw [if_pos h1]
    by_cases h2 : v.toInt ≤ hi.toInt
    · rw [if_pos h2]; split <;> (try split) <;> omega
    · rw [if_neg h2]; split <;> (try split) <;> omega
  · rw [if_neg h1]; split <;> (try split) <;> omega
theorem qHeld_m (v lo hi : Int32) (h : lo.toInt ≤ hi.toInt) : qHeld v lo hi = mHold v lo hi := by
  apply Int32.toInt_inj.mp
  rw [mHold_I v lo hi h, qHeld_I v lo hi h]
theorem mHold_b (v lo hi : Int32) (h : lo.toInt ≤ hi.toInt) : lo.toInt ≤ (mHold v lo hi).toInt ∧ (mHold v lo hi).toInt ≤ hi.toInt := by
  rw [mHold_I v lo hi h]
  split
  · omega
  · split <;> omega
/-! ===== the parts of a minute: the class's are the model's ===== -/
theorem e20000 : (-20000 : Int32).toInt = -20000 ∧ (nI 20000).toInt = 20000 := by decide +kernel
theorem e100 : (nI 0).toInt = 0 ∧ (nI 100).toInt = 100 := by decide +kernel
theorem qEr_m (t e sp : Int32) : qEr t e sp = mEr t e sp := qHeld_m _ _ _ (by rw [e20000.1, e20000.2]; omega)
theorem mEr_b (t e sp : Int32) : -20000 ≤ (mEr t e sp).toInt ∧ (mEr t e sp).toInt ≤ 20000 := by
  have h := mHold_b (e + (t - sp)) (-20000) (nI 20000) (by rw [e20000.1, e20000.2]; omega)
  rw [e20000.1, e20000.2] at h
  exact h
theorem mWa_b (gp gi t sp e : Int32) : 0 ≤ (mWa gp gi t sp e).toInt ∧ (mWa gp gi t sp e).toInt ≤ 100 := by
  have h := mHold_b (mFd (gp * (t - sp) + mFd (gi * e) (nI 100)) (nI 100)) (nI 0) (nI 100) (by rw [e100.1, e100.2]; omega)
  rw [e100.1, e100.2] at h
  exact h
theorem qWa_m {gp gi t sp e : Int32} (h1 : 0 ≤ gp.toInt ∧ gp.toInt ≤ 200) (h2 : 0 ≤ gi.toInt ∧ gi.toInt ≤ 200) (h3 : -60000 ≤ t.toInt ∧ t.toInt ≤ 20000) (h4 : 1500 ≤ sp.toInt ∧ sp.toInt ≤ 3500) (h5 : -20000 ≤ e.toInt ∧ e.toInt ≤ 20000) : qWa gp gi t sp e = mWa gp gi t sp e := by
  have a1 : (gi.toInt * e.toInt).natAbs ≤ 200 * 20000 := mulB (by omega) (by omega)
  have a2 : (gi * e).toInt = gi.toInt * e.toInt := fb_mulI (by omega) (by omega)
  have a3 : (t - sp).toInt = t.toInt - sp.toInt := fb_subI (by omega) (by omega)
  have a4 : (gp.toInt * (t - sp).toInt).natAbs ≤ 200 * 70000 := mulB (by omega) (by omega)
  have a5 : (gp * (t - sp)).toInt = gp.toInt * (t - sp).toInt := fb_mulI (by omega) (by omega)
  have a6 : (mFd (gi * e) (nI 100)).toInt = (gi.toInt * e.toInt) / 100 := by rw [mFd_I (by rw [e100.2]; omega), a2, e100.2]
  have a7 : (gp * (t - sp) + mFd (gi * e) (nI 100)).toInt = gp.toInt * (t - sp).toInt + (gi.toInt * e.toInt) / 100 := by rw [fb_addI (by rw [a5, a6]; omega) (by rw [a5, a6]; omega), a5, a6]
  unfold qWa mWa
  rw [qPart_m (v := gi * e) (c := 100) (Or.inl rfl) (by rw [a2]; omega), qPart_m (v := gp * (t - sp) + mFd (gi * e) (nI 100)) (c := 100) (Or.inl rfl) (by rw [a7]; omega)]
  exact qHeld_m _ _ _ (by rw [e100.1, e100.2]; omega)
theorem mSum_cg {g g2 : Nat → Int32} : ∀ {n : Nat}, (∀ f, f < n → g f = g2 f) → mSum g n = mSum g2 n
  | 0, _ => rfl
  | n + 1, h => by
    show mSum g n + g n = mSum g2 n + g2 n
    rw [mSum_cg (fun f hf => h f (by omega)), h n (by omega)]
theorem mRun_cg {F F2 g g2 : Nat → Int32} {n : Nat} (hF : ∀ f, f < n → F f = F2 f) (hg : ∀ f, f < n → g f = g2 f) : mRun F g n = mRun F2 g2 n :=
  mSum_cg (fun f hf => by rw [hF f hf, hg f hf])
theorem mSum_b {g : Nat → Int32} {B : Nat} (hB : B ≤ 10000) : ∀ {n : Nat}, n ≤ 8 → (∀ f, f < n → 0 ≤ (g f).toInt ∧ (g f).toInt ≤ B) → 0 ≤ (mSum g n).toInt ∧ (mSum g n).toInt ≤ n * B
  | 0, _, _ => by
    show 0 ≤ (nI 0).toInt ∧ (nI 0).toInt ≤ _
    rw [e100.1]; omega
  | n + 1, hn, h => by
    have h1 := mSum_b hB (n := n) (by omega) (fun f hf => h f (by omega))
    have h2 := h n (by omega)
    have h3 : (n : Int) * B ≤ 80000 := by
      have : n * B ≤ 8 * 10000 := Nat.mul_le_mul (by omega) hB
      omega
    have h4 : ((n + 1 : Nat) : Int) * B = n * B + B := by rw [Int.natCast_add, Int.add_mul]; omega
    show 0 ≤ (mSum g n + g n).toInt ∧ (mSum g n + g n).toInt ≤ _
    rw [fb_addI (by omega) (by omega), h4]
    omega
theorem mRun_b {F g : Nat → Int32} : ∀ {n : Nat}, n ≤ 8 → (∀ f, f < n → 0 ≤ (g f).toInt ∧ (g f).toInt ≤ 100) → 0 ≤ (mRun F g n).toInt ∧ (mRun F g n).toInt ≤ (mSum g n).toInt
  | 0, _, _ => by
    show 0 ≤ (nI 0).toInt ∧ (nI 0).toInt ≤ (nI 0).toInt
    rw [e100.1]; omega
  | n + 1, hn, h => by
    have h1 := mRun_b (F := F) (n := n) (by omega) (fun f hf => h f (by omega))
    have h2 := h n (by omega)
    have h3 := mSum_b (B := 100) (by omega) (n := n) (by omega) (fun f hf => h f (by omega))
    have h4 : (n : Int) * (100 : Nat) ≤ 800 := by omega
    have e : (mSum g (n + 1)).toInt = (mSum g n).toInt + (g n).toInt := by
      show (mSum g n + g n).toInt = _
      rw [fb_addI (by omega) (by omega)]
    by_cases hF : F n = 0
    · rw [mRun_t F g n hF, fb_addI (by omega) (by omega), e]; omega
    · rw [mRun_f F g n hF, e]; omega
theorem mRa_b {F g : Nat → Int32} {w : Int32} (hg : ∀ f, f < 8 → 0 ≤ (g f).toInt ∧ (g f).toInt ≤ 100) (hw : 0 ≤ w.toInt ∧ w.toInt ≤ 100) : (0 ≤ (mRa F g w).toInt ∧ (mRa F g w).toInt ≤ 100) ∧ qRa F g w = mRa F g w := by
  have h1 := mSum_b (B := 100) (by omega) (n := 8) (by omega) hg
  have h2 := mRun_b (F := F) (n := 8) (by omega) hg
  unfold mRa qRa
  by_cases c1 : mRun F g 8 = mSum g 8
  · rw [if_pos c1, if_pos c1.symm]; exact ⟨hw, rfl⟩
  · have c1s : ¬ mSum g 8 = mRun F g 8 := fun q => c1 q.symm
    rw [if_neg c1, if_neg c1s]
    by_cases c2 : mRun F g 8 = 0
    · rw [if_pos c2, if_pos c2, e100.2]; exact ⟨by omega, rfl⟩
    · rw [if_neg c2, if_neg c2]
      have h3 : 0 < (mRun F g 8).toInt := by
        rcases Int.lt_or_eq_of_le h2.1 with q | q
        · exact q
        · exact absurd (Int32.toInt_inj.mp (by rw [← q, Int32.toInt_zero])) c2
      have h4 : (w.toInt * (mSum g 8).toInt).natAbs ≤ 100 * 800 := mulB (by omega) (by omega)
      have h5 : 0 ≤ w.toInt * (mSum g 8).toInt := Int.mul_nonneg hw.1 h1.1
      have h6 : (w * mSum g 8).toInt = w.toInt * (mSum g 8).toInt := fb_mulI (by omega) (by omega)
      rw [mFd_pos (by rw [h6]; exact h5) h3]
      have h7 : 0 ≤ (w * mSum g 8 / mRun F g 8).toInt := by
        rw [mDiv h3, h6]
        exact Int.tdiv_nonneg h5 (by omega)
      generalize w * mSum g 8 / mRun F g 8 = v at h7 ⊢
      have e1 : (mMin (nI 100) v).toInt = if v.toInt < 100 then v.toInt else 100 := by
        unfold mMin
        simp only [Int32.lt_iff_toInt_lt, e100.2]
        split
        · rfl
        · exact e100.2
      refine ⟨by rw [e1]; split <;> omega, ?_⟩
      apply Int32.toInt_inj.mp
      rw [e1, qHeld_I _ _ _ (by rw [e100.1, e100.2]; omega), e100.1, e100.2, if_neg (by omega)]
      split <;> split <;> omega
theorem mGd_cg {g g2 dm dm2 : Nat → Int32} : ∀ {n : Nat}, (∀ z, z < n → g z = g2 z) → (∀ z, z < n → dm z = dm2 z) → qGd g2 dm2 n = mGd g dm n
  | 0, _, _ => rfl
  | n + 1, hg, hd => by
    have h := mGd_cg (n := n) (fun z hz => hg z (by omega)) (fun z hz => hd z (by omega))
    by_cases c : g n ≤ 0
    · rw [mGd_t g dm n c, qGd_a g2 dm2 n (by rw [← hg n (by omega)]; exact c), h]
    · rw [mGd_f g dm n c]
      by_cases c2 : dm n ≤ mGd g dm n
      · rw [mMax_l c2, qGd_b g2 dm2 n (by rw [← hg n (by omega)]; exact c) (by rw [h, ← hd n (by omega)]; exact c2), h]
      · rw [mMax_r c2, qGd_c g2 dm2 n (by rw [← hg n (by omega)]; exact c) (by rw [h, ← hd n (by omega)]; exact c2), hd n (by omega)]
theorem mGd_b {g dm : Nat → Int32} : ∀ {n : Nat}, (∀ z, z < n → 0 ≤ (dm z).toInt ∧ (dm z).toInt ≤ 100) → 0 ≤ (mGd g dm n).toInt ∧ (mGd g dm n).toInt ≤ 100
  | 0, _ => by show 0 ≤ (nI 0).toInt ∧ (nI 0).toInt ≤ 100; rw [e100.1]; omega
  | n + 1, hd => by
    have h := mGd_b (g := g) (n := n) (fun z hz => hd z (by omega))
    by_cases c : g n ≤ 0
    · rw [mGd_t g dm n c]; exact h
    · rw [mGd_f g dm n c]
      unfold mMax
      split
      · exact hd n (by omega)
      · exact h
theorem mTn_m {t lo am co : Int32} (h1 : -50200 ≤ t.toInt ∧ t.toInt ≤ 17800) (h2 : 0 ≤ lo.toInt ∧ lo.toInt ≤ 200) (h3 : 1000 ≤ am.toInt ∧ am.toInt ≤ 5000) (h4 : 0 ≤ co.toInt ∧ co.toInt ≤ 80000) : qTn t lo am co = mTn t lo am co ∧ -50200 ≤ (mTn t lo am co).toInt ∧ (mTn t lo am co).toInt ≤ 17800 := by
  have a1 : (am - t).toInt = am.toInt - t.toInt := fb_subI (by omega) (by omega)
  have e64 : (nI 64).toInt = 64 := by decide +kernel
  have a2 : (mFd (am - t) (nI 64)).toInt = (am.toInt - t.toInt) / 64 := by rw [mFd_I (by rw [e64]; omega), a1, e64]
  have a3 : (co / nI 100).toInt = co.toInt / 100 := by rw [mDiv (by rw [e100.2]; omega), e100.2, Int.tdiv_eq_ediv_of_nonneg h4.1]
  have a4 : (t + lo).toInt = t.toInt + lo.toInt := fb_addI (by omega) (by omega)
  have a5 : (t + lo + mFd (am - t) (nI 64)).toInt = t.toInt + lo.toInt + (am.toInt - t.toInt) / 64 := by rw [fb_addI (by rw [a4, a2]; omega) (by rw [a4, a2]; omega), a4, a2]
  have a6 : (mTn t lo am co).toInt = t.toInt + lo.toInt + (am.toInt - t.toInt) / 64 - co.toInt / 100 := by
    unfold mTn
    rw [fb_subI (by rw [a5, a3]; omega) (by rw [a5, a3]; omega), a5, a3]
  have a7 : -50200 ≤ (mTn t lo am co).toInt := by
    rw [a6]; omega
  refine ⟨?_, a7, by rw [a6]; omega⟩
  unfold qTn mTn
  rw [qPart_m (v := am - t) (c := 64) (Or.inr rfl) (by rw [a1]; omega)]
  simp only [Int32.sub_eq_add_neg, Int32.add_assoc]
