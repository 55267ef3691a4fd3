/-! ===== the hall in numbers ===== -/
def mFd (x y : Int32) : Int32 := if 0 ≤ x ^^^ y then x / y else if x / y * y = x then x / y else x / y - 1
def mFm (x y : Int32) : Int32 := if 0 ≤ x ^^^ y then x - x / y * y else if x - x / y * y = 0 then x - x / y * y else x - x / y * y + y
def mMax (x y : Int32) : Int32 := if x < y then y else x
def mMin (x y : Int32) : Int32 := if y < x then y else x
def mHold (v lo hi : Int32) : Int32 := mMax lo (mMin hi v)
def mSum (g : Nat → Int32) : Nat → Int32
  | 0 => nI 0
  | n + 1 => mSum g n + g n
def mFl (n : Nat) (g f : Nat → Int32) : Nat → Int32 := fun j => if j < n then g j else f j
def mEr (t e sp : Int32) : Int32 := mHold (e + (t - sp)) (-20000) (nI 20000)
def mWa (gp gi t sp e : Int32) : Int32 := mHold (mFd (gp * (t - sp) + mFd (gi * e) (nI 100)) (nI 100)) (nI 0) (nI 100)
def mRun (F g : Nat → Int32) : Nat → Int32 := mSum (fun f => if F f = 0 then g f else 0)
def mRa (F g : Nat → Int32) (w : Int32) : Int32 := if mRun F g 8 = mSum g 8 then w else if mRun F g 8 = 0 then nI 100 else mMin (nI 100) (mFd (w * mSum g 8) (mRun F g 8))
def mGd (g dm : Nat → Int32) : Nat → Int32
  | 0 => nI 0
  | n + 1 => if g n ≤ 0 then mGd g dm n else mMax (mGd g dm n) (dm n)
def mTn (t lo am co : Int32) : Int32 := t + lo + mFd (am - t) (nI 64) - co / nI 100
def mE1 (T E Se : Nat → Int32) : Nat → Int32 := fun z => mEr (T z) (E z) (Se z)
def mD1 (gp gi : Int32) (T E Se F : Nat → Int32) (Ef : Nat → Nat → Int32) : Nat → Int32 := fun z => mRa F (fun f => Ef f z) (mWa gp gi (T z) (Se z) (mEr (T z) (E z) (Se z)))
def mG1 (Ef : Nat → Nat → Int32) (Dm : Nat → Int32) : Nat → Int32 := fun f => mGd (Ef f) Dm 6
def mS1 (F K : Nat → Int32) : Nat → Int32 := fun f => if F f = 0 then K f else nI 0
def mCo (Ef : Nat → Nat → Int32) (S : Nat → Int32) (z : Nat) : Nat → Int32 := mSum (fun f => Ef f z * S f)
def mT1 (am : Int32) (T Lo : Nat → Int32) (Ef : Nat → Nat → Int32) (S : Nat → Int32) : Nat → Int32 := fun z => mTn (T z) (Lo z) am (mCo Ef S z 8)
theorem mFl_0 (g f : Nat → Int32) : mFl 0 g f = f := by funext j; simp [mFl]
theorem mFl_up (n : Nat) (g f : Nat → Int32) : upd (mFl n g f) n (g n) = mFl (n + 1) g f := by
  funext j
  by_cases h : j = n
  · subst h; simp [upd, mFl]
  · by_cases h2 : j < n
    · simp [upd, mFl, h, h2, Nat.lt_succ_of_lt h2]
    · simp [upd, mFl, h, h2, show ¬ j < n + 1 by omega]
theorem mFl_at (n : Nat) (g f : Nat → Int32) : mFl n g f n = f n := by simp [mFl]
theorem mFl_lt {n j : Nat} (g f : Nat → Int32) (h : j < n) : mFl n g f j = g j := by simp [mFl, h]
theorem mFl_ge {n j : Nat} (g f : Nat → Int32) (h : n ≤ j) : mFl n g f j = f j := by simp [mFl, Nat.not_lt.mpr h]
theorem mSum_s (g : Nat → Int32) (n : Nat) : mSum g (n + 1) = mSum g n + g n := rfl
theorem mRun_t (F g : Nat → Int32) (n : Nat) (h : F n = 0) : mRun F g (n + 1) = mRun F g n + g n := by
  show mSum _ n + (if F n = 0 then g n else 0) = _
  rw [if_pos h]; rfl
theorem mRun_f (F g : Nat → Int32) (n : Nat) (h : ¬ F n = 0) : mRun F g (n + 1) = mRun F g n := by
  show mSum _ n + (if F n = 0 then g n else 0) = _
  rw [if_neg h, Int32.add_zero]; rfl
theorem mGd_t (g dm : Nat → Int32) (n : Nat) (h : g n ≤ 0) : mGd g dm (n + 1) = mGd g dm n := by
  show (if g n ≤ 0 then _ else _) = _
  rw [if_pos h]
theorem mGd_f (g dm : Nat → Int32) (n : Nat) (h : ¬ g n ≤ 0) : mGd g dm (n + 1) = mMax (mGd g dm n) (dm n) := by
  show (if g n ≤ 0 then _ else _) = _
  rw [if_neg h]
def nE (T E Se : Nat → Int32) : Nat → Int32 := mFl 6 (mE1 T E Se) E
def nD (gp gi : Int32) (T E Dm F Se : Nat → Int32) (Ef : Nat → Nat → Int32) : Nat → Int32 := mFl 6 (mD1 gp gi T E Se F Ef) Dm
def nC (gp gi : Int32) (T E Dm F : Nat → Int32) (C : Nat → Nat → Int32) (la : Nat) (Se : Nat → Int32) (Ef : Nat → Nat → Int32) : Nat → Nat → Int32 := va_up C ((la + 1) % 9) (mFl 8 (mG1 Ef (nD gp gi T E Dm F Se Ef)) (C ((la + 1) % 9)))
def nS (gp gi : Int32) (T E Dm F S : Nat → Int32) (C : Nat → Nat → Int32) (la : Nat) (Se : Nat → Int32) (Ef : Nat → Nat → Int32) (dl : Nat) : Nat → Int32 := mFl 8 (mS1 F (nC gp gi T E Dm F C la Se Ef (((la + 1) % 9 + 9 - dl) % 9))) S
def nT (gp gi am : Int32) (T E Dm F S : Nat → Int32) (C : Nat → Nat → Int32) (la : Nat) (Lo Se : Nat → Int32) (Ef : Nat → Nat → Int32) (dl : Nat) : Nat → Int32 := mFl 6 (mT1 am T Lo Ef (nS gp gi T E Dm F S C la Se Ef dl)) T
theorem va_up_id {α : Type} (f : Nat → α) (k : Nat) : va_up f k (f k) = f := by
  funext j
  by_cases h : j = k
  · subst h; simp [va_up]
  · simp [va_up, h]
theorem mNext {n : Nat} (h : n < 20) : mFm (nI n) (nI 9) = nI (n % 9) := by
  have key : ∀ a : Fin 20, mFm (nI a.val) (nI 9) = nI (a.val % 9) := by decide +kernel
  exact key ⟨n, h⟩
theorem mAgo {la k : Nat} (h1 : la < 9) (h2 : k < 9) : mFm (nI la - nI k) (nI 9) = nI ((la + 9 - k) % 9) := by
  have key : ∀ a : Fin 9, ∀ b : Fin 9, mFm (nI a.val - nI b.val) (nI 9) = nI ((a.val + 9 - b.val) % 9) := by decide +kernel
  exact key ⟨la, h1⟩ ⟨k, h2⟩
/-! ===== worlds ===== -/
def kT (cI cZ cO _ : ClassId) : List (ClassId × FieldType) := [(cI, .int), (cZ, .boolean), (cO, .array .int)]
def rws (cI : ClassId) (w n : Nat) (r : Nat → Nat) (C : Nat → Nat → Int32) : va_W := (List.range n).map (fun k => (r k, .inl (cI, w, .inl (C k))))
theorem rws_get {cI : ClassId} {w n : Nat} {r : Nat → Nat} {C : Nat → Nat → Int32} {j : Nat} (hj : j < n) : (rws cI w n r C)[j]? = some (r j, .inl (cI, w, .inl (C j))) := by
  unfold rws
  rw [List.getElem?_map, List.getElem?_range hj]
  rfl
theorem rws_len {cI : ClassId} {w n : Nat} {r : Nat → Nat} {C : Nat → Nat → Int32} : (rws cI w n r C).length = n := by simp [rws]
theorem rws_at {pre post : va_W} {cI : ClassId} {w n : Nat} {r : Nat → Nat} {C : Nat → Nat → Int32} {j N : Nat} (hN : pre.length = N) (hj : j < n) : (pre ++ (rws cI w n r C ++ post))[N + j]? = some (r j, .inl (cI, w, .inl (C j))) := by
  subst hN
  rw [List.getElem?_append_right (by omega), Nat.add_sub_cancel_left, List.getElem?_append_left (by rw [rws_len]; exact hj), rws_get hj]
theorem rws_up {cI : ClassId} {w n : Nat} {r : Nat → Nat} {C : Nat → Nat → Int32} {j : Nat} {X : Nat → Int32} (hj : j < n) : (rws cI w n r C).set j (r j, .inl (cI, w, .inl X)) = rws cI w n r (va_up C j X) := by
  apply List.ext_getElem?
  intro k
  by_cases hk : k < n
  · by_cases e : j = k
    · subst e
      rw [List.getElem?_set_self (by rw [rws_len]; exact hk), rws_get hk, va_up_self]
    · rw [List.getElem?_set_ne e, rws_get hk, rws_get hk, va_up_ne _ _ (Ne.symm e)]
  · rw [List.getElem?_eq_none (by rw [List.length_set, rws_len]; omega), List.getElem?_eq_none (by rw [rws_len]; omega)]
theorem rws_set {pre post : va_W} {cI : ClassId} {w n : Nat} {r : Nat → Nat} {C : Nat → Nat → Int32} {j N : Nat} {X : Nat → Int32} (hN : pre.length = N) (hj : j < n) : (pre ++ (rws cI w n r C ++ post)).set (N + j) (r j, .inl (cI, w, .inl X)) = pre ++ (rws cI w n r (va_up C j X) ++ post) := by
  subst hN
  rw [List.set_append_right _ _ (by omega), Nat.add_sub_cancel_left, List.set_append_left _ _ (by rw [rws_len]; exact hj), rws_up hj]
/-- a hall at a 0 .. a 15 and the settings at b 0 .. b 11 -/
def wH (cI cZ cO : ClassId) (a b : Nat → Nat) (T E Dm F S : Nat → Int32) (C : Nat → Nat → Int32) (la : Nat) (Lo Se : Nat → Int32) (Ef : Nat → Nat → Int32) (gp gi am li : Int32) (dl : Nat) : va_W :=
  [(a 0, .inr (0, [.ref (a 1), .ref (a 2), .ref (a 3), .ref (a 4), .ref (a 5), .ref (a 6), .int (nI la)])), (a 1, .inl (cI, 6, .inl T)), (a 2, .inl (cI, 6, .inl E)), (a 3, .inl (cI, 6, .inl Dm)), (a 4, .inl (cZ, 8, .inl F)), (a 5, .inl (cI, 8, .inl S)), (a 6, .inl (cO, 9, .inr (.inr (.inr (.inr (fun i => some (a (7 + i)))))))),
    (b 0, .inr (1, [.ref (b 1), .ref (b 2), .ref (b 3), .int gp, .int gi, .int am, .int li, .int (nI dl)])), (b 1, .inl (cI, 6, .inl Lo)), (b 2, .inl (cI, 6, .inl Se)), (b 3, .inl (cO, 8, .inr (.inr (.inr (.inr (fun i => some (b (4 + i))))))))]
  ++ (rws cI 8 9 (fun k => a (7 + k)) C ++ (rws cI 6 8 (fun k => b (4 + k)) Ef ++ []))
section WH
variable {cI cZ cO : ClassId} {a b : Nat → Nat} {T E Dm F S : Nat → Int32} {C : Nat → Nat → Int32} {la : Nat} {Lo Se : Nat → Int32} {Ef : Nat → Nat → Int32} {gp gi am li : Int32} {dl : Nat} {j : Nat}
theorem wH_ring (hj : j < 9) : (wH cI cZ cO a b T E Dm F S C la Lo Se Ef gp gi am li dl)[11 + j]? = some (a (7 + j), .inl (cI, 8, .inl (C j))) := rws_at rfl hj
theorem wH_ring_set {X : Nat → Int32} (hj : j < 9) : (wH cI cZ cO a b T E Dm F S C la Lo Se Ef gp gi am li dl).set (11 + j) (a (7 + j), .inl (cI, 8, .inl X)) = wH cI cZ cO a b T E Dm F S (va_up C j X) la Lo Se Ef gp gi am li dl := rws_set rfl hj
theorem wH_eff (hj : j < 8) : (wH cI cZ cO a b T E Dm F S C la Lo Se Ef gp gi am li dl)[20 + j]? = some (b (4 + j), .inl (cI, 6, .inl (Ef j))) := by
  unfold wH
  rw [← List.append_assoc]
  exact rws_at (by rw [List.length_append, rws_len]; rfl) hj
end WH
