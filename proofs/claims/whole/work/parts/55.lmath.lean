/-! ===== what holds between two calls ===== -/
theorem inR_I {v : Int32} {lo hi : Nat} (h : inR v (nI lo) (nI hi)) (hl : lo < 2 ^ 31) (hh : hi < 2 ^ 31) : (lo : Int) ≤ v.toInt ∧ v.toInt ≤ (hi : Int) := by
  obtain ⟨h1, h2⟩ := h
  rw [Int32.lt_iff_toInt_lt, toI lo hl] at h1
  rw [Int32.le_iff_toInt_le, toI hi hh] at h2
  omega
theorem inR_N {v : Int32} {lo hi : Nat} (h : inR v (nI lo) (nI hi)) (hl : lo < 2 ^ 31) (hh : hi < 2 ^ 31) : ∃ z : Nat, v = nI z ∧ lo ≤ z ∧ z ≤ hi := by
  obtain ⟨h1, h2⟩ := inR_I h hl hh
  refine ⟨v.toInt.toNat, ?_, by omega, by omega⟩
  apply Int32.toInt_inj.mp
  rw [toI _ (by omega)]
  omega
def LI (σ : HS) (μ : MS) (ck : Nat) (Ho Hm Lo Se Em : Nat → Int32) (Ef : Nat → Nat → Int32) (gp gi am : Int32) (dl : Nat) : Prop :=
  RelX 0 σ μ ∧ SOK Lo Se Em Ef gp gi am dl ∧ rK μ 0 = ck ∧ ck ≤ 100000 ∧ ∀ j, j < 6 → Hm j = Ho j
section LIS
variable {σ : HS} {μ : MS} {ck : Nat} {Ho Hm Lo Se Em : Nat → Int32} {Ef : Nat → Nat → Int32} {gp gi am : Int32} {dl : Nat}
theorem LI_load {z : Nat} {v : Int32} (h : LI σ μ ck Ho Hm Lo Se Em Ef gp gi am dl) (hv : inR v (nI 0) (nI 200)) : LI σ μ ck Ho Hm (upd Lo z v) Se Em Ef gp gi am dl := by
  obtain ⟨h1, ⟨s1, s2, s3, s4, s5, s6, s7, s8⟩, h3⟩ := h
  refine ⟨h1, ⟨fun k hk => ?_, s2, s3, s4, s5, s6, s7, s8⟩, h3⟩
  unfold upd
  split
  · have := inR_I hv (by decide) (by decide); omega
  · exact s1 k hk
theorem LI_set {z : Nat} {v : Int32} (h : LI σ μ ck Ho Hm Lo Se Em Ef gp gi am dl) (hv : inR v (nI 1500) (nI 3500)) : LI (sT σ, upd (sE σ) z (nI 0), sD σ, sF σ, sS σ, sC σ, sL σ) (rK μ, rT μ, upd (rE μ) z (nI 0), rD μ, rF μ, rS μ, rC μ) ck Ho Hm Lo (upd Se z v) Em Ef gp gi am dl := by
  have h0 := h
  obtain ⟨⟨⟨r1, r2, r3, r4, r5, r6, r7, r8, r9, r10⟩, d1, d2⟩, ⟨s1, s2, s3, s4, s5, s6, s7, s8⟩, h3⟩ := h
  refine ⟨⟨⟨r1, fun k hk => ?_, r3, r4, r5, r6, r7, fun k hk => ?_, r9, r10⟩, d1, d2⟩, ⟨s1, fun k hk => ?_, s3, s4, s5, s6, s7, s8⟩, h3⟩
  · show upd (rE μ) z (nI 0) (6 * 0 + k) = upd (sE σ) z (nI 0) k
    rw [show 6 * 0 + k = k from by omega]
    unfold upd
    split
    · rfl
    · exact rel0_E h0.1 hk
  · show -20000 ≤ (upd (sE σ) z (nI 0) k).toInt ∧ (upd (sE σ) z (nI 0) k).toInt ≤ 20000
    unfold upd
    split
    · rw [toI 0 (by decide)]; omega
    · exact r8 k hk
  · unfold upd
    split
    · have := inR_I hv (by decide) (by decide); omega
    · exact s2 k hk
theorem LI_eff {f z : Nat} {v : Int32} (hz : z < 6) (h : LI σ μ ck Ho Hm Lo Se Em Ef gp gi am dl) (hv : inR v (nI 0) (nI 100)) : LI σ μ ck Ho Hm Lo Se (upd Em (6 * f + z) v) (va_up Ef f (upd (Ef f) z v)) gp gi am dl := by
  obtain ⟨h1, ⟨s1, s2, s3, s4, s5, s6, s7, s8⟩, h3⟩ := h
  refine ⟨h1, ⟨s1, s2, fun g k hg hk => ?_, s4, s5, s6, s7, fun g k hg hk => ?_⟩, h3⟩
  · by_cases e : g = f
    · subst e
      rw [va_up_self]
      unfold upd
      split
      · have := inR_I hv (by decide) (by decide); omega
      · exact s3 g k hg hk
    · rw [va_up_ne _ _ e]; exact s3 g k hg hk
  · by_cases e : g = f
    · subst e
      rw [va_up_self]
      unfold upd
      by_cases e2 : k = z
      · rw [if_pos (by omega), if_pos e2]
      · rw [if_neg (by omega), if_neg e2]; exact s8 g k hg hk
    · rw [va_up_ne _ _ e]
      unfold upd
      rw [if_neg (by omega)]; exact s8 g k hg hk
theorem LI_gains {v w : Int32} (h : LI σ μ ck Ho Hm Lo Se Em Ef gp gi am dl) (hv : inR v (nI 0) (nI 200)) (hw : inR w (nI 0) (nI 200)) : LI σ μ ck Ho Hm Lo Se Em Ef v w am dl := by
  obtain ⟨h1, ⟨s1, s2, s3, s4, s5, s6, s7, s8⟩, h3⟩ := h
  exact ⟨h1, ⟨s1, s2, s3, by have := inR_I hv (by decide) (by decide); omega, by have := inR_I hw (by decide) (by decide); omega, s6, s7, s8⟩, h3⟩
theorem LI_hall {v : Int32} (h : LI σ μ ck Ho Hm Lo Se Em Ef gp gi am dl) (hv : inR v (nI 1000) (nI 5000)) : LI σ μ ck Ho Hm Lo Se Em Ef gp gi v dl := by
  obtain ⟨h1, ⟨s1, s2, s3, s4, s5, s6, s7, s8⟩, h3⟩ := h
  exact ⟨h1, ⟨s1, s2, s3, s4, s5, by have := inR_I hv (by decide) (by decide); omega, s7, s8⟩, h3⟩
theorem LI_delay {d : Nat} (hd : d < 9) (h : LI σ μ ck Ho Hm Lo Se Em Ef gp gi am dl) : LI σ μ ck Ho Hm Lo Se Em Ef gp gi am d := by
  obtain ⟨h1, ⟨s1, s2, s3, s4, s5, s6, s7, s8⟩, h3⟩ := h
  exact ⟨h1, ⟨s1, s2, s3, s4, s5, s6, hd, s8⟩, h3⟩
theorem upd_rel {F G : Nat → Int32} {f : Nat} {v : Int32} (h : ∀ k, k < 8 → F (8 * 0 + k) = G k) : ∀ k, k < 8 → upd F f v (8 * 0 + k) = upd G f v k := fun k hk => by
  have := h k hk
  rw [show 8 * 0 + k = k from by omega] at this ⊢
  unfold upd
  split
  · rfl
  · exact this
theorem upd_01 {F : Nat → Int32} {f : Nat} {v : Int32} (hv : v = nI 0 ∨ v = nI 1) (h : ∀ k, k < 8 → F k = nI 0 ∨ F k = nI 1) : ∀ k, k < 8 → upd F f v k = nI 0 ∨ upd F f v k = nI 1 := fun k hk => by
  unfold upd
  split
  · exact hv
  · exact h k hk
theorem LI_fail {f : Nat} (h : LI σ μ ck Ho Hm Lo Se Em Ef gp gi am dl) : LI (sT σ, sE σ, sD σ, upd (sF σ) f (nI 1), upd (sS σ) f (nI 0), sC σ, sL σ) (rK μ, rT μ, rE μ, rD μ, upd (rF μ) f (nI 1), upd (rS μ) f (nI 0), rC μ) ck Ho Hm Lo Se Em Ef gp gi am dl := by
  obtain ⟨⟨⟨r1, r2, r3, r4, r5, r6, r7, r8, r9, r10⟩, d1, d2⟩, h2⟩ := h
  exact ⟨⟨⟨r1, r2, upd_rel r3, r4, r5, r6, r7, r8, upd_01 (Or.inr rfl) r9, r10⟩, d1, upd_rel d2⟩, h2⟩
theorem LI_repair {f : Nat} (h : LI σ μ ck Ho Hm Lo Se Em Ef gp gi am dl) : LI (sT σ, sE σ, sD σ, upd (sF σ) f (nI 0), sS σ, sC σ, sL σ) (rK μ, rT μ, rE μ, rD μ, upd (rF μ) f (nI 0), rS μ, rC μ) ck Ho Hm Lo Se Em Ef gp gi am dl := by
  obtain ⟨⟨⟨r1, r2, r3, r4, r5, r6, r7, r8, r9, r10⟩, d1, d2⟩, h2⟩ := h
  exact ⟨⟨⟨r1, r2, upd_rel r3, r4, r5, r6, r7, r8, upd_01 (Or.inl rfl) r9, r10⟩, d1, d2⟩, h2⟩
theorem LI_same {ν : MS} (h : LI σ μ ck Ho Hm Lo Se Em Ef gp gi am dl) (hs : sameR μ ν) : LI σ ν ck Ho Hm Lo Se Em Ef gp gi am dl :=
  ⟨relX_same h.1 hs, h.2.1, hs.1.trans h.2.2.1, h.2.2.2⟩
theorem mCnt_cg {F G : Nat → Int32} : ∀ n : Nat, (∀ f, f < n → F f = G f) → mCnt F n = mCnt G n
  | 0, _ => rfl
  | n + 1, h => by
    show (if F n = 0 then mCnt F n + 1 else mCnt F n) = (if G n = 0 then mCnt G n + 1 else mCnt G n)
    rw [mCnt_cg n (fun f hf => h f (by omega)), h n (by omega)]
theorem mBest_cg {T U : Nat → Int32} : ∀ n : Nat, (∀ z, z ≤ n → T z = U z) → mBest T n = mBest U n
  | 0, _ => rfl
  | n + 1, h => by
    show (if T (n + 1) ≤ T (mBest T n) then mBest T n else n + 1) = (if U (n + 1) ≤ U (mBest U n) then mBest U n else n + 1)
    rw [mBest_cg n (fun z hz => h z (by omega)), h (n + 1) (Nat.le_refl _), h (mBest U n) (Nat.le_trans (mBest_le U n) (Nat.le_succ n))]
theorem LI_cmd {f : Nat} (hf : f < 8) (h : LI σ μ ck Ho Hm Lo Se Em Ef gp gi am dl) (h0 : 0 < rK μ 0) : sC σ (sL σ) f = rC μ (9 * (8 * 0 + f) + (rK μ 0 - 1) % 9) := by
  have r4 := h.1.1.2.2.2.1
  have r5 := h.1.1.2.2.2.2.1
  rw [r4 f _ hf (Nat.mod_lt _ (by decide)), r5]
  congr 1
  omega
theorem LI_cmd0 {f : Nat} (hf : f < 8) (h : LI σ μ ck Ho Hm Lo Se Em Ef gp gi am dl) (h0 : rK μ 0 = 0) : sC σ (sL σ) f = nI 0 := by
  have r4 := h.1.1.2.2.2.1
  have r5 := h.1.1.2.2.2.2.1
  have r6 := h.1.1.2.2.2.2.2.1
  have e1 := r4 f 8 hf (by decide)
  have e2 := r6 f 8 hf (by decide) (by rw [h0]; decide)
  rw [r5, h0]
  exact e1.symm.trans e2
theorem LI_la (h : LI σ μ ck Ho Hm Lo Se Em Ef gp gi am dl) : sL σ < 9 := by
  rw [h.1.1.2.2.2.2.1]; exact Nat.mod_lt _ (by decide)
theorem LI_F (h : LI σ μ ck Ho Hm Lo Se Em Ef gp gi am dl) : ∀ f : Nat, f < 8 → sF σ f = nI 0 ∨ sF σ f = nI 1 := h.1.1.2.2.2.2.2.2.2.2.1
theorem LI_cF {f : Nat} {v : Int32} (h : LI σ μ ck Ho Hm Lo Se Em Ef gp gi am dl) : mCnt (upd (sF σ) f v) 8 = mCnt (upd (rF μ) f v) 8 := by
  refine mCnt_cg 8 (fun k hk => ?_)
  unfold upd
  split
  · rfl
  · exact (rel0_F h.1 hk).symm
theorem LI_hot (h : LI σ μ ck Ho Hm Lo Se Em Ef gp gi am dl) : mBest (sT σ) 5 = mBest (rT μ) 5 := mBest_cg 5 (fun z hz => (rel0_T h.1 (by omega)).symm)
end LIS
