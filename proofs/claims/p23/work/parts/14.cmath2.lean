/-! ===== runs of minutes, and what would be ===== -/
abbrev HS : Type := (Nat → Int32) × (Nat → Int32) × (Nat → Int32) × (Nat → Int32) × (Nat → Int32) × (Nat → Nat → Int32) × Nat
abbrev sT (σ : HS) : Nat → Int32 := σ.1
abbrev sE (σ : HS) : Nat → Int32 := σ.2.1
abbrev sD (σ : HS) : Nat → Int32 := σ.2.2.1
abbrev sF (σ : HS) : Nat → Int32 := σ.2.2.2.1
abbrev sS (σ : HS) : Nat → Int32 := σ.2.2.2.2.1
abbrev sC (σ : HS) : Nat → Nat → Int32 := σ.2.2.2.2.2.1
abbrev sL (σ : HS) : Nat := σ.2.2.2.2.2.2
def hStep (gp gi am : Int32) (Lo Se : Nat → Int32) (Ef : Nat → Nat → Int32) (dl : Nat) (σ : HS) : HS :=
  (nT gp gi am (sT σ) (sE σ) (sD σ) (sF σ) (sS σ) (sC σ) (sL σ) Lo Se Ef dl, nE (sT σ) (sE σ) Se, nD gp gi (sT σ) (sE σ) (sD σ) (sF σ) Se Ef, sF σ, nS gp gi (sT σ) (sE σ) (sD σ) (sF σ) (sS σ) (sC σ) (sL σ) Se Ef dl, nC gp gi (sT σ) (sE σ) (sD σ) (sF σ) (sC σ) (sL σ) Se Ef, (sL σ + 1) % 9)
def hRun (gp gi am : Int32) (Lo Se : Nat → Int32) (Ef : Nat → Nat → Int32) (dl : Nat) : Nat → HS → HS
  | 0, σ => σ
  | n + 1, σ => hStep gp gi am Lo Se Ef dl (hRun gp gi am Lo Se Ef dl n σ)
theorem hRun_la {gp gi am : Int32} {Lo Se : Nat → Int32} {Ef : Nat → Nat → Int32} {dl : Nat} {σ : HS} (h : sL σ < 9) : ∀ n : Nat, sL (hRun gp gi am Lo Se Ef dl n σ) < 9
  | 0 => h
  | n + 1 => Nat.mod_lt _ (by decide)
def hFail (σ : HS) (f : Nat) : HS := (sT σ, sE σ, sD σ, upd (sF σ) f (nI 1), upd (sS σ) f (nI 0), sC σ, sL σ)
def pHo (li : Int32) (f : Nat → Nat → Int32) (Ho : Nat → Int32) : Nat → Nat → Int32
  | 0 => Ho
  | k + 1 => mFl 6 (mHo li (f (k + 1)) (pHo li f Ho k)) (pHo li f Ho k)
def pSum (li : Int32) (f : Nat → Nat → Int32) : Nat → Int32
  | 0 => nI 0
  | k + 1 => pSum li f k + mNot li (f (k + 1)) 6
def gTop (f : Nat → Int32) : Nat → Int32
  | 0 => f 0
  | k + 1 => mMax (gTop f k) (f (k + 1))
def gOf (gp gi am : Int32) (Lo Se : Nat → Int32) (Ef : Nat → Nat → Int32) (dl : Nat) (σ : HS) (z m : Nat) : Int32 := gTop (fun k => sT (hRun gp gi am Lo Se Ef dl (k + 1) σ) z) m
def crit (F g : Nat → Int32) : Nat → Int32 × Int32
  | 0 => ((-1), nI 0)
  | n + 1 => if F n = 0 then (if (crit F g n).1 = (-1) then (nI n, g n) else if g n ≤ (crit F g n).2 then crit F g n else (nI n, g n)) else crit F g n
theorem crit_a (F g : Nat → Int32) (n : Nat) (h : ¬ F n = 0) : crit F g (n + 1) = crit F g n := by
  show (if F n = 0 then _ else _) = _
  rw [if_neg h]
theorem crit_b (F g : Nat → Int32) (n : Nat) (h : F n = 0) (h2 : (crit F g n).1 = (-1)) : crit F g (n + 1) = (nI n, g n) := by
  show (if F n = 0 then _ else _) = _
  rw [if_pos h, if_pos h2]
theorem crit_c (F g : Nat → Int32) (n : Nat) (h : F n = 0) (h2 : ¬ (crit F g n).1 = (-1)) (h3 : g n ≤ (crit F g n).2) : crit F g (n + 1) = crit F g n := by
  show (if F n = 0 then _ else _) = _
  rw [if_pos h, if_neg h2, if_pos h3]
theorem crit_d (F g : Nat → Int32) (n : Nat) (h : F n = 0) (h2 : ¬ (crit F g n).1 = (-1)) (h3 : ¬ g n ≤ (crit F g n).2) : crit F g (n + 1) = (nI n, g n) := by
  show (if F n = 0 then _ else _) = _
  rw [if_pos h, if_neg h2, if_neg h3]
theorem crit_or (F g : Nat → Int32) : ∀ n : Nat, (crit F g n).1 = (-1) ∨ ∃ f : Nat, f < n ∧ (crit F g n).1 = nI f
  | 0 => Or.inl rfl
  | n + 1 => by
    have up : ((crit F g n).1 = (-1) ∨ ∃ f : Nat, f < n ∧ (crit F g n).1 = nI f) → ((crit F g n).1 = (-1) ∨ ∃ f : Nat, f < n + 1 ∧ (crit F g n).1 = nI f) := by
      rintro (h | ⟨f, h1, h2⟩)
      · exact Or.inl h
      · exact Or.inr ⟨f, Nat.lt_succ_of_lt h1, h2⟩
    by_cases h : F n = 0
    · by_cases h2 : (crit F g n).1 = (-1)
      · rw [crit_b F g n h h2]; exact Or.inr ⟨n, Nat.lt_succ_self n, rfl⟩
      · by_cases h3 : g n ≤ (crit F g n).2
        · rw [crit_c F g n h h2 h3]; exact up (crit_or F g n)
        · rw [crit_d F g n h h2 h3]; exact Or.inr ⟨n, Nat.lt_succ_self n, rfl⟩
    · rw [crit_a F g n h]; exact up (crit_or F g n)
theorem nI_m1 {f : Nat} (h : f < 2 ^ 31) : ¬ nI f = (-1) := by
  intro q
  have h1 := congrArg Int32.toInt q
  rw [nI_toInt h, show ((-1 : Int32)).toInt = -1 from by decide +kernel] at h1
  omega
def gAny (gp gi am : Int32) (Lo Se : Nat → Int32) (Ef : Nat → Nat → Int32) (dl : Nat) (σ : HS) (z m : Nat) (fv : Int32) : Int32 :=
  if fv = (-1) then gOf gp gi am Lo Se Ef dl σ z m else gOf gp gi am Lo Se Ef dl (hFail σ fv.toNatClampNeg) z m
theorem gAny_f {gp gi am : Int32} {Lo Se : Nat → Int32} {Ef : Nat → Nat → Int32} {dl : Nat} {σ : HS} {z m f : Nat} (h : f < 2 ^ 31) : gAny gp gi am Lo Se Ef dl σ z m (nI f) = gOf gp gi am Lo Se Ef dl (hFail σ f) z m := by
  unfold gAny
  rw [if_neg (nI_m1 h), nI_clamp h]
/-! ===== rows for a copy and for what a call leaves open ===== -/
theorem arrV_cg {cA : ClassId} {N : Nat} {f g : Nat → Value} (h : ∀ j, j < N → f j = g j) : arrV cA N f = arrV cA N g := by
  unfold arrV
  congr 1
  apply congrArg Array.ofFn
  funext j
  exact h j.val j.isLt
theorem va_P_cg {D : va_G} {ws : va_W} {H : Heap} {k a n : Nat} {cA : ClassId} {f g : Nat → Int32} (hP : va_P D vwCl (ws.set k (a, .inl (cA, n, .inl f))) H) (h : ∀ j, j < n → f j = g j) : va_P D vwCl (ws.set k (a, .inl (cA, n, .inl g))) H := by
  intro i q hq
  by_cases e : k = i
  · subst e
    have hl : k < ws.length := by
      have := (List.getElem?_eq_some_iff.mp hq).1
      simpa using this
    rw [List.getElem?_set_self hl] at hq
    have h1 := hP k _ (List.getElem?_set_self hl)
    have h2 : q = (a, .inl (cA, n, .inl g)) := (Option.some.inj hq).symm
    subst h2
    have h3 : H[a]? = some (arrV cA n (fun j => .int (f j))) := h1
    show H[a]? = some (arrV cA n (fun j => .int (g j)))
    rw [h3]
    exact congrArg some (arrV_cg (fun j hj => by rw [h j hj]))
  · rw [List.getElem?_set_ne e] at hq
    exact hP i q (by rw [List.getElem?_set_ne e]; exact hq)
theorem va_D_cg {A : Nat → Prop} {ws : va_W} {k a n : Nat} {cA : ClassId} {f g : Nat → Int32} (hD : va_D A (ws.set k (a, .inl (cA, n, .inl f)))) : va_D A (ws.set k (a, .inl (cA, n, .inl g))) :=
  kfull hD (by rw [List.map_set, List.map_set])
def kBE {S : Type} (D : va_G) (W1 : S → va_W) : S → State → Prop := fun u t => va_P D vwCl (W1 u) t.heap
abbrev kME {S : Type} (l : Launch) (y : MethodName) (ws : List Cond) (rm : Room) (D : va_G) (tys : List (ClassId × FieldType)) (av : List Value) (W0 : va_W) (W1 : S → va_W) (sz : Nat) (r : Int32) : Prop :=
  Met l y ws rm (va_Pc av (kPre D tys W0 sz)) (va_Qi (fun (x : Int32) (_ : S) => x = r) (kBE D W1) (va_A W0 sz)) 0 0 (va_A W0 sz)
section KR3
variable {p : Program} {l : Launch} {e : Env} {R : Room} {s : State} {m : MethodId} {args : Array Value} {below : List Frame} {meth : Method} {c : Code} {H : Heap} {locs : List Loc} {cells slots : Nat} {Q : State → Prop}
variable {pc : Nat} {ls : Array Slot} {rest st0 : List Value} {a : Array Value} {A0 : Nat → Prop} {H0 : Heap} {D : va_G} {ws W0 : va_W} {cc : ByteArray} {tys : List (ClassId × FieldType)}
theorem k_cpy (hx : p.tables.exec = Jvm.exec) (hb : c.code = cc) (hml : c.maxLocals = ls.size) {own : String} {index : Nat} (hown : s.vm.findClass own = some m.cls) (hlink : (Cond.methodLink own index arraycopyName).before args s = true) (hnat : (Cond.native arraycopyName).before args s = true) (hstat : (Cond.static arraycopyName).before args s = true) (hini : (Cond.initialized "java/lang/System").before args s = true)
    (hK : va_K D vwCl tys s) (hP : va_P D vwCl ws H) (hD : va_D A0 ws) (hS : va_S A0 H0 H locs) (q0 q1 t0 : Nat) {ar a0 : Nat} {c0 c1 : ClassId} {N : Nat} {f g : Nat → Int32} (ha0 : ws[q0]? = some (a0, .inl (c0, N, .inl f))) (ha1 : ws[q1]? = some (ar, .inl (c1, N, .inl g))) (ht0 : tys[t0]? = some (c0, .int)) (ht1 : tys[t0]? = some (c1, .int)) (hN : N < 2 ^ 31)
    (hframes : 1 ≤ R.frames) (hlocals : (rest.map fun v => v.category).sum + (nativeFrameWords "java/lang/System" "arraycopy" 5 + 11) ≤ R.locals) (hdg : decode cc pc = .ok (.invokestatic index, 3))
    (kk : ∀ (H1 : Heap) (locs1 : List Loc), va_P D vwCl (ws.set q1 (ar, .inl (c1, N, .inl f))) H1 → va_D A0 (ws.set q1 (ar, .inl (c1, N, .inl f))) → va_S A0 H0 H1 locs1 → W p l e R s m args below meth c H1 locs1 cells slots Q (F0 m (pc + 3) ls rest)) : W p l e R s m args below meth c H locs cells slots Q (F0 m pc ls (.int (nI N) :: .int (nI 0) :: .ref ar :: .int (nI 0) :: .ref a0 :: rest)) := by
  have e0 : (nI 0).toNatClampNeg = 0 := nI_clamp (by decide)
  have eN : (nI N).toNatClampNeg = N := nI_clamp hN
  refine va_copyi hx hb hml hown hlink hnat hstat hini hK hP hD hS q0 q1 t0 t0 ha0 ha1 ht0 ht1 rfl (nI_pos (by decide)) (nI_pos (by decide)) (nI_pos hN) (by rw [e0, eN]; omega) (by rw [e0, eN]; omega) (fun i _ => rfl) hframes hlocals hdg (fun H1 locs1 hP1 hD1 hS1 => ?_)
  rw [e0, eN] at hP1 hD1
  exact kk H1 locs1 (va_P_cg hP1 (fun j hj => sb_cpy0 hj)) (va_D_cg hD1) hS1
theorem kRetE_i {S : Type} {W1 : S → va_W} (u : S) {sz : Nat} {v r : Int32} (hx : p.tables.exec = Jvm.exec) (hb : c.code = cc) (hr : meth.sig.returnType = some .int) (hlocks : meth.locks = false) (hP : va_P D vwCl (W1 u) H) (hS : va_S (va_A W0 sz) s.heap H locs) (hdg : decode cc pc = .ok (.ireturn, 1)) (he : v = r) :
    W p l e R s m args below meth c H locs 0 0 (MQ below (va_Qi (fun (x : Int32) (_ : S) => x = r) (kBE D W1) (va_A W0 sz)) args s 0 0 (va_A W0 sz)) (F0 m pc ls [.int v]) := by
  subst he
  exact W.iret (v := v) hx hb hr (fun t ht hW => ⟨⟨v, u, rfl, rfl, by show va_P D vwCl (W1 u) t.heap; rw [ht]; exact hP⟩, hS.F ht⟩) hS.2.2 hdg hlocks
theorem kCallWE_i {S : Type} {W1 : S → va_W} {r : Int32} (hD : va_D A0 ws) (hS : va_S A0 H0 H locs) (hA : ∀ q, H0.size ≤ q → A0 q) (hF : ∀ u, (W1 u).map (·.1) = ws.map (·.1))
    (hr : va_Run p l e R s m args below meth c H locs cells slots 0 0 (F0 m pc ls st0) rest (va_Qi (fun (x : Int32) (_ : S) => x = r) (kBE D W1) (va_A ws H.size) a) (va_A ws H.size))
    (kk : ∀ (u : S) (H1 : Heap) (locs1 : List Loc), va_P D vwCl (W1 u) H1 → va_D A0 (W1 u) → va_S A0 H0 H1 locs1 → W p l e R s m args below meth c H1 locs1 cells slots Q (F0 m (pc + 3) ls (.int r :: rest))) : W p l e R s m args below meth c H locs cells slots Q (F0 m pc ls st0) := by
  have hFc := kfree hD hS hA
  refine va_calli hr hS (fun q _ h => hFc q h) hFc (fun x u t H1 locs1 ht hvm hx hB hz hk hS1 => ?_)
  subst hx
  have hB : va_P D vwCl (W1 u) t.heap := hB
  rw [ht] at hB
  exact kk u H1 locs1 hB (kfull hD (hF u)) hS1
end KR3
def mFr (n : Nat) (C C1 : Nat → Nat → Int32) : Nat → Nat → Int32 := fun j => if j < n then C j else C1 j
theorem mFr_0 (C C1 : Nat → Nat → Int32) : mFr 0 C C1 = C1 := by funext j; simp [mFr]
theorem mFr_up (n : Nat) (C C1 : Nat → Nat → Int32) : va_up (mFr n C C1) n (C n) = mFr (n + 1) C C1 := by
  funext j
  by_cases h : j = n
  · subst h; simp [va_up, mFr]
  · by_cases h2 : j < n
    · simp [va_up, mFr, h, h2, Nat.lt_succ_of_lt h2]
    · simp [va_up, mFr, h, h2, show ¬ j < n + 1 by omega]
theorem mFr_lt {n j : Nat} (C C1 : Nat → Nat → Int32) (h : j < n) : mFr n C C1 j = C j := by simp [mFr, h]
theorem vp_cell_cg {cA : ClassId} {n : Nat} {f g : Nat → Int32} (h : ∀ j, j < n → f j = g j) : vp_cell cA (n, .inl f) = vp_cell cA (n, .inl g) := by
  show arrV cA n (fun j => .int (f j)) = arrV cA n (fun j => .int (g j))
  exact arrV_cg (fun j hj => by rw [h j hj])
theorem rws_cg {cI : ClassId} {w n : Nat} {r : Nat → Nat} {C C1 : Nat → Nat → Int32} (h : ∀ j, j < n → C j = C1 j) : rws cI w n r C = rws cI w n r C1 := by
  unfold rws
  apply List.map_congr_left
  intro j hj
  rw [h j (List.mem_range.mp hj)]
theorem wC_copied {D : va_G} {H : Heap} {cI cZ cO : ClassId} {x a t b : Nat → Nat} {ck : Nat} {Ho T E Dm F S : Nat → Int32} {C : Nat → Nat → Int32} {la : Nat} {T1 E1 D1 F2 F3 S1 : Nat → Int32} {C2 C3 : Nat → Nat → Int32} {la1 : Nat} {Lo Se : Nat → Int32} {Ef : Nat → Nat → Int32} {gp gi am li : Int32} {dl : Nat}
    (hP : va_P D vwCl (wC cI cZ cO x a t b ck Ho T E Dm F S C la T1 E1 D1 F2 S1 C2 la1 Lo Se Ef gp gi am li dl) H) (h1 : ∀ j, j < 8 → F2 j = F3 j) (h2 : ∀ j, j < 9 → C2 j = C3 j) : va_P D vwCl (wC cI cZ cO x a t b ck Ho T E Dm F S C la T1 E1 D1 F3 S1 C3 la1 Lo Se Ef gp gi am li dl) H := by
  have e : rws cI 8 9 (fun k => t (7 + k)) C2 = rws cI 8 9 (fun k => t (7 + k)) C3 := rws_cg h2
  have h3 : va_P D vwCl ((wC cI cZ cO x a t b ck Ho T E Dm F S C la T1 E1 D1 F3 S1 C3 la1 Lo Se Ef gp gi am li dl).set 13 (t 4, .inl (cZ, 8, .inl F2))) H := by
    unfold wC at hP ⊢
    rw [e] at hP
    exact hP
  exact va_P_cg h3 h1
