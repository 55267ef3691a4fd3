/-! ===== more numbers ===== -/
def mCnt (F : Nat → Int32) : Nat → Int32
  | 0 => nI 0
  | n + 1 => if F n = 0 then mCnt F n + 1 else mCnt F n
theorem mCnt_t (F : Nat → Int32) (n : Nat) (h : F n = 0) : mCnt F (n + 1) = mCnt F n + 1 := by
  show (if F n = 0 then _ else _) = _
  rw [if_pos h]
theorem mCnt_f (F : Nat → Int32) (n : Nat) (h : ¬ F n = 0) : mCnt F (n + 1) = mCnt F n := by
  show (if F n = 0 then _ else _) = _
  rw [if_neg h]
def mBest (T : Nat → Int32) : Nat → Nat
  | 0 => 0
  | n + 1 => if T (n + 1) ≤ T (mBest T n) then mBest T n else n + 1
theorem mBest_t (T : Nat → Int32) (n : Nat) (h : T (n + 1) ≤ T (mBest T n)) : mBest T (n + 1) = mBest T n := by
  show (if T (n + 1) ≤ T (mBest T n) then _ else _) = _
  rw [if_pos h]
theorem mBest_f (T : Nat → Int32) (n : Nat) (h : ¬ T (n + 1) ≤ T (mBest T n)) : mBest T (n + 1) = n + 1 := by
  show (if T (n + 1) ≤ T (mBest T n) then _ else _) = _
  rw [if_neg h]
theorem mBest_le (T : Nat → Int32) : ∀ n : Nat, mBest T n ≤ n
  | 0 => Nat.le_refl 0
  | n + 1 => by
    have := mBest_le T n
    unfold mBest
    split <;> omega
def mNot (li : Int32) (T : Nat → Int32) : Nat → Int32
  | 0 => nI 0
  | n + 1 => if T n ≤ li then mNot li T n else mNot li T n + 1
theorem mNot_t (li : Int32) (T : Nat → Int32) (n : Nat) (h : T n ≤ li) : mNot li T (n + 1) = mNot li T n := by
  show (if T n ≤ li then _ else _) = _
  rw [if_pos h]
theorem mNot_f (li : Int32) (T : Nat → Int32) (n : Nat) (h : ¬ T n ≤ li) : mNot li T (n + 1) = mNot li T n + 1 := by
  show (if T n ≤ li then _ else _) = _
  rw [if_neg h]
def mHo (li : Int32) (T Ho : Nat → Int32) (z : Nat) : Int32 := if T z ≤ li then Ho z else Ho z + nI 1
theorem upd_same (f : Nat → Int32) (k : Nat) (v : Int32) (h : f k = v) : upd f k v = f := by
  funext j
  by_cases e : j = k
  · subst e; simp [upd, h]
  · simp [upd, e]
