/-! ===== a half of the model's rows is a hall ===== -/
abbrev MS : Type := (Nat → Nat) × (Nat → Int32) × (Nat → Int32) × (Nat → Int32) × (Nat → Int32) × (Nat → Int32) × (Nat → Int32)
abbrev rK (μ : MS) : Nat → Nat := μ.1
abbrev rT (μ : MS) : Nat → Int32 := μ.2.1
abbrev rE (μ : MS) : Nat → Int32 := μ.2.2.1
abbrev rD (μ : MS) : Nat → Int32 := μ.2.2.2.1
abbrev rF (μ : MS) : Nat → Int32 := μ.2.2.2.2.1
abbrev rS (μ : MS) : Nat → Int32 := μ.2.2.2.2.2.1
abbrev rC (μ : MS) : Nat → Int32 := μ.2.2.2.2.2.2
def qStep (h : Nat) (gp gi am : Int32) (Lo Se Em : Nat → Int32) (dl : Nat) (μ : MS) : MS :=
  (va_up (rK μ) h (rK μ h + 1), qT h gp gi am (rT μ) (rE μ) (rD μ) Lo Se (rF μ) Em (rS μ) (rK μ) (rC μ) dl, qSu h (rT μ) (rE μ) Se, qDm h gp gi (rT μ) (rE μ) (rD μ) Se (rF μ) Em, rF μ, qS h gp gi (rT μ) (rE μ) (rD μ) Se (rF μ) Em (rS μ) (rK μ) (rC μ) dl, qC h gp gi (rT μ) (rE μ) (rD μ) Se (rF μ) Em (rK μ) (rC μ))
/-- the settings within their bounds; the model's flat effects are the class's -/
def SOK (Lo Se Em : Nat → Int32) (Ef : Nat → Nat → Int32) (gp gi am : Int32) (dl : Nat) : Prop :=
  (∀ z, z < 6 → 0 ≤ (Lo z).toInt ∧ (Lo z).toInt ≤ 200) ∧ (∀ z, z < 6 → 1500 ≤ (Se z).toInt ∧ (Se z).toInt ≤ 3500) ∧ (∀ f z, f < 8 → z < 6 → 0 ≤ (Ef f z).toInt ∧ (Ef f z).toInt ≤ 100) ∧
  (0 ≤ gp.toInt ∧ gp.toInt ≤ 200) ∧ (0 ≤ gi.toInt ∧ gi.toInt ≤ 200) ∧ (1000 ≤ am.toInt ∧ am.toInt ≤ 5000) ∧ dl < 9 ∧ (∀ f z, f < 8 → z < 6 → Em (6 * f + z) = Ef f z)
def RelH (h : Nat) (σ : HS) (μ : MS) : Prop :=
  (∀ z, z < 6 → rT μ (6 * h + z) = sT σ z) ∧ (∀ z, z < 6 → rE μ (6 * h + z) = sE σ z) ∧ (∀ f, f < 8 → rF μ (8 * h + f) = sF σ f) ∧
  (∀ f k, f < 8 → k < 9 → rC μ (9 * (8 * h + f) + k) = sC σ ((k + 1) % 9) f) ∧ sL σ = rK μ h % 9 ∧ (∀ f k, f < 8 → k < 9 → rK μ h ≤ k → rC μ (9 * (8 * h + f) + k) = nI 0) ∧
  (∀ z, z < 6 → -50200 ≤ (sT σ z).toInt ∧ (sT σ z).toInt ≤ 17800) ∧ (∀ z, z < 6 → -20000 ≤ (sE σ z).toInt ∧ (sE σ z).toInt ≤ 20000) ∧ (∀ f, f < 8 → sF σ f = nI 0 ∨ sF σ f = nI 1) ∧
  (∀ f k, f < 8 → k < 9 → 0 ≤ (sC σ k f).toInt ∧ (sC σ k f).toInt ≤ 100)
def RelX (h : Nat) (σ : HS) (μ : MS) : Prop := RelH h σ μ ∧ (∀ z, z < 6 → rD μ (6 * h + z) = sD σ z) ∧ (∀ f, f < 8 → rS μ (8 * h + f) = sS σ f)
theorem qCk_at (h : Nat) (Em Dm : Nat → Int32) (ck : Nat → Nat) (C : Nat → Int32) {f k : Nat} (hf : f < 8) (hk : k < 9) : ∀ n : Nat, n ≤ 8 → qCk h Em Dm ck C n (9 * (8 * h + f) + k) = if f < n ∧ k = ck h % 9 then qG1 h Em Dm f else C (9 * (8 * h + f) + k)
  | 0, _ => by rw [if_neg (by omega)]; rfl
  | n + 1, hn => by
    have hm : ck h % 9 < 9 := Nat.mod_lt _ (by decide)
    show upd (qCk h Em Dm ck C n) (9 * (8 * h + n) + ck h % 9) (qG1 h Em Dm n) (9 * (8 * h + f) + k) = _
    unfold upd
    by_cases e : 9 * (8 * h + f) + k = 9 * (8 * h + n) + ck h % 9
    · have e1 : f = n := by omega
      subst e1
      rw [if_pos e, if_pos (by omega)]
    · rw [if_neg e, qCk_at h Em Dm ck C hf hk n (by omega)]
      by_cases c : f < n ∧ k = ck h % 9
      · rw [if_pos c, if_pos (by omega)]
      · rw [if_neg c, if_neg (by
          rintro ⟨h1, h2⟩
          apply e
          have : f = n := by
            rcases Nat.lt_or_ge f n with q | q
            · exact absurd ⟨q, h2⟩ c
            · omega
          subst this
          rw [h2])]
set_option maxHeartbeats 8000000 in
theorem rel_step {h : Nat} {σ : HS} {μ : MS} {Lo Se Em : Nat → Int32} {Ef : Nat → Nat → Int32} {gp gi am : Int32} {dl : Nat} (hS : SOK Lo Se Em Ef gp gi am dl) (hR : RelH h σ μ) :
    RelX h (hStep gp gi am Lo Se Ef dl σ) (qStep h gp gi am Lo Se Em dl μ) := by
  obtain ⟨s1, s2, s3, s4, s5, s6, s7, s8⟩ := hS
  obtain ⟨r1, r2, r3, r4, r5, r6, r7, r8, r9, r10⟩ := hR
  have hla : sL σ < 9 := by rw [r5]; exact Nat.mod_lt _ (by decide)
  have hm : rK μ h % 9 < 9 := Nat.mod_lt _ (by decide)
  -- the sums of errors
  have E1 : ∀ z, z < 6 → rE (qStep h gp gi am Lo Se Em dl μ) (6 * h + z) = sE (hStep gp gi am Lo Se Ef dl σ) z := by
    intro z hz
    show mFo (6 * h) 6 (qE1 h (rT μ) (rE μ) Se) (rE μ) (6 * h + z) = mFl 6 (mE1 (sT σ) (sE σ) Se) (sE σ) z
    rw [mFo_in _ _ hz, mFl_lt _ _ hz]
    show qEr (rT μ (6 * h + z)) (rE μ (6 * h + z)) (Se z) = mEr (sT σ z) (sE σ z) (Se z)
    rw [qEr_m, r1 z hz, r2 z hz]
  -- the demands
  have hDb : ∀ z, z < 6 → 0 ≤ (nD gp gi (sT σ) (sE σ) (sD σ) (sF σ) Se Ef z).toInt ∧ (nD gp gi (sT σ) (sE σ) (sD σ) (sF σ) Se Ef z).toInt ≤ 100 := by
    intro z hz
    show 0 ≤ (mFl 6 (mD1 gp gi (sT σ) (sE σ) Se (sF σ) Ef) (sD σ) z).toInt ∧ _
    have e : nD gp gi (sT σ) (sE σ) (sD σ) (sF σ) Se Ef z = mD1 gp gi (sT σ) (sE σ) Se (sF σ) Ef z := mFl_lt _ _ hz
    rw [e, mFl_lt _ _ hz]
    exact (mRa_b (fun f hf => s3 f z hf hz) (mWa_b _ _ _ _ _)).1
  have D1 : ∀ z, z < 6 → qDm h gp gi (rT μ) (rE μ) (rD μ) Se (rF μ) Em (6 * h + z) = nD gp gi (sT σ) (sE σ) (sD σ) (sF σ) Se Ef z := by
    intro z hz
    show mFo (6 * h) 6 (qD1 h gp gi (rT μ) (rE μ) Se (rF μ) Em) (rD μ) (6 * h + z) = mFl 6 (mD1 gp gi (sT σ) (sE σ) Se (sF σ) Ef) (sD σ) z
    rw [mFo_in _ _ hz, mFl_lt _ _ hz]
    show qRa (fun f => rF μ (8 * h + f)) (fun f => Em (6 * f + z)) (qWa gp gi (rT μ (6 * h + z)) (Se z) (qEr (rT μ (6 * h + z)) (rE μ (6 * h + z)) (Se z))) = mRa (sF σ) (fun f => Ef f z) (mWa gp gi (sT σ z) (Se z) (mEr (sT σ z) (sE σ z) (Se z)))
    rw [qEr_m, r1 z hz, r2 z hz, qWa_m s4 s5 (by have := r7 z hz; omega) (s2 z hz) (mEr_b _ _ _), ← (mRa_b (F := sF σ) (fun f hf => s3 f z hf hz) (mWa_b _ _ _ _ _)).2]
    unfold qRa
    rw [mSum_cg (g := fun f => Em (6 * f + z)) (g2 := fun f => Ef f z) (fun f hf => s8 f z hf hz), mRun_cg (F := fun f => rF μ (8 * h + f)) (F2 := sF σ) (g := fun f => Em (6 * f + z)) (g2 := fun f => Ef f z) r3 (fun f hf => s8 f z hf hz)]
  -- the commands
  have G1 : ∀ f, f < 8 → qG1 h Em (qDm h gp gi (rT μ) (rE μ) (rD μ) Se (rF μ) Em) f = mG1 Ef (nD gp gi (sT σ) (sE σ) (sD σ) (sF σ) Se Ef) f := by
    intro f hf
    exact mGd_cg (n := 6) (fun z hz => (s8 f z hf hz).symm) (fun z hz => (D1 z hz).symm)
  have hGb : ∀ f, 0 ≤ (mG1 Ef (nD gp gi (sT σ) (sE σ) (sD σ) (sF σ) Se Ef) f).toInt ∧ (mG1 Ef (nD gp gi (sT σ) (sE σ) (sD σ) (sF σ) Se Ef) f).toInt ≤ 100 := fun f => mGd_b (n := 6) hDb
  have Cc : ∀ f k, f < 8 → k < 9 → nC gp gi (sT σ) (sE σ) (sD σ) (sF σ) (sC σ) (sL σ) Se Ef ((k + 1) % 9) f = if k = rK μ h % 9 then mG1 Ef (nD gp gi (sT σ) (sE σ) (sD σ) (sF σ) Se Ef) f else sC σ ((k + 1) % 9) f := by
    intro f k hf hk
    show va_up (sC σ) ((sL σ + 1) % 9) (mFl 8 (mG1 Ef (nD gp gi (sT σ) (sE σ) (sD σ) (sF σ) Se Ef)) (sC σ ((sL σ + 1) % 9))) ((k + 1) % 9) f = _
    by_cases e : k = rK μ h % 9
    · rw [if_pos e, e, ← r5, va_up_self, mFl_lt _ _ hf]
    · rw [if_neg e, va_up_ne _ _ (by rw [r5]; omega)]
  have Cm : ∀ n f k, n ≤ 8 → f < n → k < 9 → qCk h Em (qDm h gp gi (rT μ) (rE μ) (rD μ) Se (rF μ) Em) (rK μ) (rC μ) n (9 * (8 * h + f) + k) = nC gp gi (sT σ) (sE σ) (sD σ) (sF σ) (sC σ) (sL σ) Se Ef ((k + 1) % 9) f := by
    intro n f k hn hf hk
    rw [qCk_at h Em _ _ _ (by omega) hk n hn, Cc f k (by omega) hk]
    by_cases e : k = rK μ h % 9
    · rw [if_pos e, if_pos ⟨hf, e⟩, G1 f (by omega)]
    · rw [if_neg e, if_neg (fun q => e q.2), r4 f k (by omega) hk]
  -- the speeds
  have S1 : ∀ f, f < 8 → qS h gp gi (rT μ) (rE μ) (rD μ) Se (rF μ) Em (rS μ) (rK μ) (rC μ) dl (8 * h + f) = nS gp gi (sT σ) (sE σ) (sD σ) (sF σ) (sS σ) (sC σ) (sL σ) Se Ef dl f := by
    intro f hf
    show mFo (8 * h) 8 (qS1 h Em (qDm h gp gi (rT μ) (rE μ) (rD μ) Se (rF μ) Em) (rF μ) (rK μ) (rC μ) dl) (rS μ) (8 * h + f) = mFl 8 (mS1 (sF σ) (nC gp gi (sT σ) (sE σ) (sD σ) (sF σ) (sC σ) (sL σ) Se Ef (((sL σ + 1) % 9 + 9 - dl) % 9))) (sS σ) f
    rw [mFo_in _ _ hf, mFl_lt _ _ hf]
    show qSp dl (rK μ h) (rF μ (8 * h + f)) (qCk h Em (qDm h gp gi (rT μ) (rE μ) (rD μ) Se (rF μ) Em) (rK μ) (rC μ) (f + 1)) (9 * (8 * h + f)) = if sF σ f = 0 then nC gp gi (sT σ) (sE σ) (sD σ) (sF σ) (sC σ) (sL σ) Se Ef (((sL σ + 1) % 9 + 9 - dl) % 9) f else nI 0
    unfold qSp
    rw [r3 f hf, r5]
    by_cases c2 : sF σ f = 0
    · by_cases c1 : dl ≤ rK μ h
      · simp only [if_pos c1, if_pos c2]
        rw [Cm (f + 1) f ((rK μ h - dl) % 9) (by omega) (by omega) (Nat.mod_lt _ (by decide)), show ((rK μ h - dl) % 9 + 1) % 9 = ((rK μ h % 9 + 1) % 9 + 9 - dl) % 9 from by omega, r5]
      · simp only [if_neg c1, if_pos c2]
        have h1 : (rK μ h + 9 - dl) < 9 := by omega
        have h2 : ((rK μ h + 9 - dl) + 1) % 9 = ((rK μ h % 9 + 1) % 9 + 9 - dl) % 9 := by omega
        have h3 := Cc f (rK μ h + 9 - dl) hf h1
        rw [if_neg (by omega), ← r4 f _ hf h1, r6 f _ hf h1 (by omega), h2, r5] at h3
        exact h3.symm
    · by_cases c1 : dl ≤ rK μ h
      · simp only [if_pos c1, if_neg c2]
      · simp only [if_neg c1, if_neg c2]
  have hCb : ∀ f k, f < 8 → k < 9 → 0 ≤ (nC gp gi (sT σ) (sE σ) (sD σ) (sF σ) (sC σ) (sL σ) Se Ef k f).toInt ∧ (nC gp gi (sT σ) (sE σ) (sD σ) (sF σ) (sC σ) (sL σ) Se Ef k f).toInt ≤ 100 := by
    intro f k hf hk
    have e : k = ((k + 8) % 9 + 1) % 9 := by omega
    rw [e, Cc f ((k + 8) % 9) hf (Nat.mod_lt _ (by decide))]
    split
    · exact hGb f
    · rw [← e]; exact r10 f k hf hk
  have hSb : ∀ f, f < 8 → 0 ≤ (nS gp gi (sT σ) (sE σ) (sD σ) (sF σ) (sS σ) (sC σ) (sL σ) Se Ef dl f).toInt ∧ (nS gp gi (sT σ) (sE σ) (sD σ) (sF σ) (sS σ) (sC σ) (sL σ) Se Ef dl f).toInt ≤ 100 := by
    intro f hf
    have e : nS gp gi (sT σ) (sE σ) (sD σ) (sF σ) (sS σ) (sC σ) (sL σ) Se Ef dl f = if sF σ f = 0 then nC gp gi (sT σ) (sE σ) (sD σ) (sF σ) (sC σ) (sL σ) Se Ef (((sL σ + 1) % 9 + 9 - dl) % 9) f else nI 0 := mFl_lt _ _ hf
    rw [e]
    split
    · exact hCb f _ hf (Nat.mod_lt _ (by decide))
    · rw [e100.1]; omega
  have hCo : ∀ z, z < 6 → 0 ≤ (mCo Ef (nS gp gi (sT σ) (sE σ) (sD σ) (sF σ) (sS σ) (sC σ) (sL σ) Se Ef dl) z 8).toInt ∧ (mCo Ef (nS gp gi (sT σ) (sE σ) (sD σ) (sF σ) (sS σ) (sC σ) (sL σ) Se Ef dl) z 8).toInt ≤ 80000 := by
    intro z hz
    have h9 := mSum_b (g := fun f => Ef f z * nS gp gi (sT σ) (sE σ) (sD σ) (sF σ) (sS σ) (sC σ) (sL σ) Se Ef dl f) (B := 10000) (by omega) (n := 8) (by omega) (fun f hf => by
      have b1 := s3 f z hf hz
      have b2 := hSb f hf
      have b3 : ((Ef f z).toInt * (nS gp gi (sT σ) (sE σ) (sD σ) (sF σ) (sS σ) (sC σ) (sL σ) Se Ef dl f).toInt).natAbs ≤ 100 * 100 := mulB (by omega) (by omega)
      have b4 : 0 ≤ (Ef f z).toInt * (nS gp gi (sT σ) (sE σ) (sD σ) (sF σ) (sS σ) (sC σ) (sL σ) Se Ef dl f).toInt := Int.mul_nonneg b1.1 b2.1
      show 0 ≤ (Ef f z * nS gp gi (sT σ) (sE σ) (sD σ) (sF σ) (sS σ) (sC σ) (sL σ) Se Ef dl f).toInt ∧ (Ef f z * nS gp gi (sT σ) (sE σ) (sD σ) (sF σ) (sS σ) (sC σ) (sL σ) Se Ef dl f).toInt ≤ _
      rw [fb_mulI (by omega) (by omega)]
      omega)
    have h8 : (mCo Ef (nS gp gi (sT σ) (sE σ) (sD σ) (sF σ) (sS σ) (sC σ) (sL σ) Se Ef dl) z 8).toInt ≤ ((8 : Nat) : Int) * ((10000 : Nat) : Int) := h9.2
    exact ⟨h9.1, by omega⟩
  have T0 : ∀ z, z < 6 → nT gp gi am (sT σ) (sE σ) (sD σ) (sF σ) (sS σ) (sC σ) (sL σ) Lo Se Ef dl z = mTn (sT σ z) (Lo z) am (mCo Ef (nS gp gi (sT σ) (sE σ) (sD σ) (sF σ) (sS σ) (sC σ) (sL σ) Se Ef dl) z 8) := fun z hz => mFl_lt _ _ hz
  have TM := fun z hz => mTn_m (r7 z hz) (s1 z hz) s6 (hCo z hz)
  have T1 : ∀ z, z < 6 → rT (qStep h gp gi am Lo Se Em dl μ) (6 * h + z) = sT (hStep gp gi am Lo Se Ef dl σ) z := by
    intro z hz
    show mFo (6 * h) 6 (qT1 h am (rT μ) Lo Em (qS h gp gi (rT μ) (rE μ) (rD μ) Se (rF μ) Em (rS μ) (rK μ) (rC μ) dl)) (rT μ) (6 * h + z) = nT gp gi am (sT σ) (sE σ) (sD σ) (sF σ) (sS σ) (sC σ) (sL σ) Lo Se Ef dl z
    rw [mFo_in _ _ hz, T0 z hz, ← (TM z hz).1]
    show qTn (rT μ (6 * h + z)) (Lo z) am (qCo h Em (qS h gp gi (rT μ) (rE μ) (rD μ) Se (rF μ) Em (rS μ) (rK μ) (rC μ) dl) z 8) = _
    have e9 : qCo h Em (qS h gp gi (rT μ) (rE μ) (rD μ) Se (rF μ) Em (rS μ) (rK μ) (rC μ) dl) z 8 = mCo Ef (nS gp gi (sT σ) (sE σ) (sD σ) (sF σ) (sS σ) (sC σ) (sL σ) Se Ef dl) z 8 := mSum_cg (fun f hf => by rw [s8 f z hf hz, S1 f hf])
    rw [r1 z hz, e9]
  refine ⟨⟨T1, E1, r3, ?_, ?_, ?_, ?_, ?_, r9, ?_⟩, D1, S1⟩
  · intro f k hf hk
    exact Cm 8 f k (Nat.le_refl 8) hf hk
  · show (sL σ + 1) % 9 = va_up (rK μ) h (rK μ h + 1) h % 9
    rw [va_up_self, r5]; omega
  · intro f k hf hk hle
    have hle : va_up (rK μ) h (rK μ h + 1) h ≤ k := hle
    rw [va_up_self] at hle
    show qCk h Em (qDm h gp gi (rT μ) (rE μ) (rD μ) Se (rF μ) Em) (rK μ) (rC μ) 8 (9 * (8 * h + f) + k) = nI 0
    rw [qCk_at h Em _ _ _ hf hk 8 (Nat.le_refl 8), if_neg (by omega)]
    exact r6 f k hf hk (by omega)
  · intro z hz
    show -50200 ≤ (nT gp gi am (sT σ) (sE σ) (sD σ) (sF σ) (sS σ) (sC σ) (sL σ) Lo Se Ef dl z).toInt ∧ (nT gp gi am (sT σ) (sE σ) (sD σ) (sF σ) (sS σ) (sC σ) (sL σ) Lo Se Ef dl z).toInt ≤ 17800
    rw [T0 z hz]
    exact (TM z hz).2
  · intro z hz
    have e : sE (hStep gp gi am Lo Se Ef dl σ) z = mEr (sT σ z) (sE σ z) (Se z) := mFl_lt _ _ hz
    rw [e]
    exact mEr_b _ _ _
  · exact hCb
/-- a minute of the second half leaves the first -/
def sameR (μ ν : MS) : Prop := rK ν 0 = rK μ 0 ∧ (∀ j, j < 6 → rT ν j = rT μ j) ∧ (∀ j, j < 6 → rE ν j = rE μ j) ∧ (∀ j, j < 6 → rD ν j = rD μ j) ∧ (∀ j, j < 8 → rF ν j = rF μ j) ∧ (∀ j, j < 8 → rS ν j = rS μ j) ∧ (∀ j, j < 72 → rC ν j = rC μ j)
theorem sameR_rf (μ : MS) : sameR μ μ := ⟨rfl, fun _ _ => rfl, fun _ _ => rfl, fun _ _ => rfl, fun _ _ => rfl, fun _ _ => rfl, fun _ _ => rfl⟩
theorem sameR_tr {μ ν ρ : MS} (h1 : sameR μ ν) (h2 : sameR ν ρ) : sameR μ ρ := by
  obtain ⟨a1, a2, a3, a4, a5, a6, a7⟩ := h1
  obtain ⟨b1, b2, b3, b4, b5, b6, b7⟩ := h2
  exact ⟨b1.trans a1, fun j hj => (b2 j hj).trans (a2 j hj), fun j hj => (b3 j hj).trans (a3 j hj), fun j hj => (b4 j hj).trans (a4 j hj), fun j hj => (b5 j hj).trans (a5 j hj), fun j hj => (b6 j hj).trans (a6 j hj), fun j hj => (b7 j hj).trans (a7 j hj)⟩
theorem qCk_out (Em Dm : Nat → Int32) (ck : Nat → Nat) (C : Nat → Int32) {j : Nat} (hj : j < 72) : ∀ n : Nat, qCk 1 Em Dm ck C n j = C j
  | 0 => rfl
  | n + 1 => by
    show upd (qCk 1 Em Dm ck C n) (9 * (8 * 1 + n) + ck 1 % 9) (qG1 1 Em Dm n) j = C j
    unfold upd
    rw [if_neg (by omega)]
    exact qCk_out Em Dm ck C hj n
theorem qStep_same (gp gi am : Int32) (Lo Se Em : Nat → Int32) (dl : Nat) (μ : MS) : sameR μ (qStep 1 gp gi am Lo Se Em dl μ) :=
  ⟨show va_up (rK μ) 1 (rK μ 1 + 1) 0 = rK μ 0 from va_up_ne _ _ (by decide), fun j hj => show mFo (6 * 1) 6 _ (rT μ) j = rT μ j from mFo_out _ _ (by omega), fun j hj => show mFo (6 * 1) 6 _ (rE μ) j = rE μ j from mFo_out _ _ (by omega), fun j hj => show mFo (6 * 1) 6 _ (rD μ) j = rD μ j from mFo_out _ _ (by omega), fun j hj => rfl, fun j hj => show mFo (8 * 1) 8 _ (rS μ) j = rS μ j from mFo_out _ _ (by omega), fun j hj => qCk_out _ _ _ _ hj 8⟩
theorem relX_same {σ : HS} {μ ν : MS} (h : RelX 0 σ μ) (s : sameR μ ν) : RelX 0 σ ν := by
  obtain ⟨⟨r1, r2, r3, r4, r5, r6, r7, r8, r9, r10⟩, d1, d2⟩ := h
  obtain ⟨a1, a2, a3, a4, a5, a6, a7⟩ := s
  refine ⟨⟨fun z hz => (a2 _ (by omega)).trans (r1 z hz), fun z hz => (a3 _ (by omega)).trans (r2 z hz), fun f hf => (a5 _ (by omega)).trans (r3 f hf), fun f k hf hk => (a7 _ (by omega)).trans (r4 f k hf hk), by rw [a1]; exact r5, fun f k hf hk hl => (a7 _ (by omega)).trans (r6 f k hf hk (by rw [← a1]; exact hl)), r7, r8, r9, r10⟩, fun z hz => (a4 _ (by omega)).trans (d1 z hz), fun f hf => (a6 _ (by omega)).trans (d2 f hf)⟩
