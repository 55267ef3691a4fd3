/-! ===== the model in numbers ===== -/
def inR (v lo hi : Int32) : Prop := ¬ v < lo ∧ v ≤ hi
theorem kNlt {v hi : Int32} (h : v ≤ hi) : ¬ hi < v := Int32.not_lt.mpr h
theorem inR_hi {v lo hi : Int32} (h : inR v lo hi) : ¬ hi < v := kNlt h.2
theorem inR_nI {n lo hi : Nat} (h1 : lo ≤ n) (h2 : n ≤ hi) (h3 : hi < 2 ^ 31) : inR (nI n) (nI lo) (nI hi) := ⟨nI_nlt h1 (by omega), nI_le h2 h3⟩
def qHeld (v lo hi : Int32) : Int32 := if lo ≤ v then (if v ≤ hi then v else hi) else lo
def qPart (v y : Int32) : Int32 := if v < 0 then -((y - nI 1 - v) / y) else v / y
def qEr (t e sp : Int32) : Int32 := qHeld (e + (t - sp)) (-20000) (nI 20000)
def qWa (gp gi t sp e : Int32) : Int32 := qHeld (qPart (gp * (t - sp) + qPart (gi * e) (nI 100)) (nI 100)) (nI 0) (nI 100)
def qRa (F g : Nat → Int32) (w : Int32) : Int32 := if mSum g 8 = mRun F g 8 then w else if mRun F g 8 = 0 then nI 100 else qHeld (w * mSum g 8 / mRun F g 8) (nI 0) (nI 100)
def qGd (g dm : Nat → Int32) : Nat → Int32
  | 0 => nI 0
  | n + 1 => if g n ≤ 0 then qGd g dm n else if dm n ≤ qGd g dm n then qGd g dm n else dm n
theorem qGd_a (g dm : Nat → Int32) (n : Nat) (h : g n ≤ 0) : qGd g dm (n + 1) = qGd g dm n := by
  show (if g n ≤ 0 then _ else _) = _
  rw [if_pos h]
theorem qGd_b (g dm : Nat → Int32) (n : Nat) (h : ¬ g n ≤ 0) (h2 : dm n ≤ qGd g dm n) : qGd g dm (n + 1) = qGd g dm n := by
  show (if g n ≤ 0 then _ else _) = _
  rw [if_neg h, if_pos h2]
theorem qGd_c (g dm : Nat → Int32) (n : Nat) (h : ¬ g n ≤ 0) (h2 : ¬ dm n ≤ qGd g dm n) : qGd g dm (n + 1) = dm n := by
  show (if g n ≤ 0 then _ else _) = _
  rw [if_neg h, if_neg h2]
def qSp (dl c : Nat) (fv : Int32) (C : Nat → Int32) (o : Nat) : Int32 := if dl ≤ c then (if fv = 0 then C (o + (c - dl) % 9) else nI 0) else nI 0
def qTn (t lo am co : Int32) : Int32 := t + (lo + qPart (am - t) (nI 64) - co / nI 100)
def mFo (o n : Nat) (g f : Nat → Int32) : Nat → Int32 := fun j => if o ≤ j ∧ j < o + n then g (j - o) else f j
theorem mFo_0 (o : Nat) (g f : Nat → Int32) : mFo o 0 g f = f := by
  funext j
  simp only [mFo]
  rw [if_neg (by omega)]
theorem mFo_up (o n : Nat) (g f : Nat → Int32) : upd (mFo o n g f) (o + n) (g n) = mFo o (n + 1) g f := by
  funext j
  simp only [upd, mFo]
  by_cases h : j = o + n
  · subst h
    rw [if_pos rfl, if_pos (by omega), Nat.add_sub_cancel_left]
  · rw [if_neg h]
    by_cases h2 : o ≤ j ∧ j < o + n
    · rw [if_pos h2, if_pos (by omega)]
    · rw [if_neg h2, if_neg (by omega)]
theorem mFo_at (o n : Nat) (g f : Nat → Int32) : mFo o n g f (o + n) = f (o + n) := by
  simp only [mFo]
  rw [if_neg (by omega)]
theorem mFo_in {o n i : Nat} (g f : Nat → Int32) (h : i < n) : mFo o n g f (o + i) = g i := by
  simp only [mFo]
  rw [if_pos (by omega), Nat.add_sub_cancel_left]
theorem mFo_out {o n j : Nat} (g f : Nat → Int32) (h : j < o ∨ o + n ≤ j) : mFo o n g f j = f j := by
  simp only [mFo]
  rw [if_neg (by omega)]
def qE1 (h : Nat) (T Su Se : Nat → Int32) : Nat → Int32 := fun z => qEr (T (6 * h + z)) (Su (6 * h + z)) (Se z)
def qD1 (h : Nat) (gp gi : Int32) (T Su Se F Ef : Nat → Int32) : Nat → Int32 := fun z => qRa (fun f => F (8 * h + f)) (fun f => Ef (6 * f + z)) (qWa gp gi (T (6 * h + z)) (Se z) (qEr (T (6 * h + z)) (Su (6 * h + z)) (Se z)))
def qG1 (h : Nat) (Ef Dm : Nat → Int32) (f : Nat) : Int32 := qGd (fun z => Ef (6 * f + z)) (fun z => Dm (6 * h + z)) 6
def qCk (h : Nat) (Ef Dm : Nat → Int32) (ck : Nat → Nat) (C : Nat → Int32) : Nat → Nat → Int32
  | 0 => C
  | k + 1 => upd (qCk h Ef Dm ck C k) (9 * (8 * h + k) + ck h % 9) (qG1 h Ef Dm k)
def qS1 (h : Nat) (Ef Dm F : Nat → Int32) (ck : Nat → Nat) (C : Nat → Int32) (dl : Nat) : Nat → Int32 := fun f => qSp dl (ck h) (F (8 * h + f)) (qCk h Ef Dm ck C (f + 1)) (9 * (8 * h + f))
def qCo (h : Nat) (Ef Sp : Nat → Int32) (z : Nat) : Nat → Int32 := mSum (fun f => Ef (6 * f + z) * Sp (8 * h + f))
def qT1 (h : Nat) (am : Int32) (T Lo Ef Sp : Nat → Int32) : Nat → Int32 := fun z => qTn (T (6 * h + z)) (Lo z) am (qCo h Ef Sp z 8)
/-- what a minute of half h leaves -/
def qSu (h : Nat) (T Su Se : Nat → Int32) : Nat → Int32 := mFo (6 * h) 6 (qE1 h T Su Se) Su
def qDm (h : Nat) (gp gi : Int32) (T Su Dm Se F Ef : Nat → Int32) : Nat → Int32 := mFo (6 * h) 6 (qD1 h gp gi T Su Se F Ef) Dm
def qC (h : Nat) (gp gi : Int32) (T Su Dm Se F Ef : Nat → Int32) (ck : Nat → Nat) (C : Nat → Int32) : Nat → Int32 := qCk h Ef (qDm h gp gi T Su Dm Se F Ef) ck C 8
def qS (h : Nat) (gp gi : Int32) (T Su Dm Se F Ef Sp : Nat → Int32) (ck : Nat → Nat) (C : Nat → Int32) (dl : Nat) : Nat → Int32 := mFo (8 * h) 8 (qS1 h Ef (qDm h gp gi T Su Dm Se F Ef) F ck C dl) Sp
def qT (h : Nat) (gp gi am : Int32) (T Su Dm Lo Se F Ef Sp : Nat → Int32) (ck : Nat → Nat) (C : Nat → Int32) (dl : Nat) : Nat → Int32 := mFo (6 * h) 6 (qT1 h am T Lo Ef (qS h gp gi T Su Dm Se F Ef Sp ck C dl)) T
theorem ck_up (ck : Nat → Nat) (h : Nat) : upd (fun j => nI (ck j)) h (nI (ck h + 1)) = fun j => nI (va_up ck h (ck h + 1) j) := by
  funext j
  by_cases e : j = h
  · subst e; simp [upd, va_up]
  · simp [upd, va_up, e]
theorem add_nI0 (x : Int32) : x + nI 0 = x := Int32.add_zero x
theorem mMax_l {x y : Int32} (h : y ≤ x) : mMax x y = x := if_neg (Int32.not_lt.mpr h)
theorem mMax_r {x y : Int32} (h : ¬ y ≤ x) : mMax x y = y := if_pos (Int32.not_le.mp h)
def qNot (li : Int32) (T : Nat → Int32) (b : Int32) : Nat → Int32
  | 0 => b
  | n + 1 => if T n ≤ li then qNot li T b n else qNot li T b n + nI 1
theorem qNot_t (li : Int32) (T : Nat → Int32) (b : Int32) (n : Nat) (h : T n ≤ li) : qNot li T b (n + 1) = qNot li T b n := by
  show (if T n ≤ li then _ else _) = _
  rw [if_pos h]
theorem qNot_f (li : Int32) (T : Nat → Int32) (b : Int32) (n : Nat) (h : ¬ T n ≤ li) : qNot li T b (n + 1) = qNot li T b n + nI 1 := by
  show (if T n ≤ li then _ else _) = _
  rw [if_neg h]
theorem qNot_m (li : Int32) (T : Nat → Int32) (b : Int32) : ∀ n : Nat, qNot li T b n = b + mNot li T n
  | 0 => (Int32.add_zero b).symm
  | n + 1 => by
    by_cases h : T n ≤ li
    · rw [qNot_t li T b n h, mNot_t li T n h, qNot_m li T b n]
    · rw [qNot_f li T b n h, mNot_f li T n h, qNot_m li T b n, Int32.add_assoc]; rfl
/-! ===== the world of the model ===== -/
def wM (cI cZ : ClassId) (y : Nat → Nat) (Lo Se Ef : Nat → Int32) (gp gi am li : Int32) (dl : Nat) (ck : Nat → Nat) (T Su Dm F Sp C Ho : Nat → Int32) (th : Int32) : va_W :=
  [(y 0, .inr (3, [.ref (y 1), .ref (y 2), .ref (y 3), .int gp, .int gi, .int am, .int li, .int (nI dl), .ref (y 4), .ref (y 5), .ref (y 6), .ref (y 7), .ref (y 8), .ref (y 9), .ref (y 10), .ref (y 11), .int th])),
    (y 1, .inl (cI, 6, .inl Lo)), (y 2, .inl (cI, 6, .inl Se)), (y 3, .inl (cI, 48, .inl Ef)), (y 4, .inl (cI, 2, .inl (fun j => nI (ck j)))), (y 5, .inl (cI, 12, .inl T)), (y 6, .inl (cI, 12, .inl Su)), (y 7, .inl (cI, 12, .inl Dm)), (y 8, .inl (cZ, 16, .inl F)), (y 9, .inl (cI, 16, .inl Sp)), (y 10, .inl (cI, 144, .inl C)), (y 11, .inl (cI, 6, .inl Ho))]
