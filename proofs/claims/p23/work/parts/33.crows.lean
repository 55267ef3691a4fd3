/-! ===== constructors: cells that come ===== -/
theorem kAO_spec {args : Array Value} {s : State} {t : FieldType} (h : (Cond.arrayOver (.array t)).before args s = true) :
    ∃ comp c k, s.vm.findClass (FieldType.array t).toString = some comp ∧ (s.vm.classes.findIdx? fun (x : Class) => match x.kind with | .array component _ => component == comp | _ => false) = some c ∧ s.vm.classes[c]? = some k ∧ k.kind = .array comp (.array t) ∧ s.vm.findClass ("[" ++ (FieldType.array t).toString) = some c := by
  simp only [Cond.before, Cond.holds, Cond.value, beq_iff_eq] at h
  cases hc : s.vm.findClass (FieldType.array t).toString with
  | none => simp [hc] at h
  | some comp =>
    simp only [hc, Option.bind_some, Option.bind_eq_some_iff, Option.map_eq_some_iff] at h
    obtain ⟨c, hi, k, hk, hb⟩ := h
    obtain ⟨hlt, hp, -⟩ := Array.findIdx?_eq_some_iff_getElem.mp hi
    have hkk : s.vm.classes[c] = k := (Array.getElem?_eq_some_iff.mp hk).2
    rw [hkk] at hp
    cases hkind : k.kind with
    | array component ty =>
      rw [hkind] at hb hp
      simp at hb hp
      exact ⟨comp, c, k, rfl, hi, hk, by rw [hkind, hp, hb.1], hb.2⟩
    | _ => rw [hkind] at hb; simp at hb
theorem va_AOA.moved {t : FieldType} {u U : State} (hvm : u.vm.Alike U.vm) (h : va_AOA t u) : va_AOA t U := by
  obtain ⟨comp, c, k, h1, h2, h3, h4, h5⟩ := kAO_spec h
  obtain ⟨k', hk', he⟩ := hvm.2.2 _ _ h3
  have hi : (U.vm.classes.findIdx? fun (x : Class) => match x.kind with | .array component _ => component == comp | _ => false) = some c := by
    have e1 := va_idx_bare U.vm comp
    have e2 := va_idx_bare u.vm comp
    have e3 : u.vm.bare = U.vm.bare := by first | exact hvm.bare_eq | exact hvm.bare_eq.symm
    rw [← e3] at e1
    exact (e1.symm.trans e2).trans h2
  have hkind : k'.kind = .array comp (.array t) := by rw [he]; exact h4
  have f1 : U.vm.findClass (FieldType.array t).toString = some comp := by rw [hvm.findClass]; exact h1
  have f2 : U.vm.findClass ("[" ++ (FieldType.array t).toString) = some c := by rw [hvm.findClass]; exact h5
  unfold va_AOA Cond.before Cond.holds
  simp only [Cond.value]
  rw [f1, Option.bind_some]
  refine (congrArg (fun o : Option Nat => (o.bind (fun c => (U.vm.classes[c]?).map fun (k : Class) => match k.kind with | .array _ ty => decide (ty = FieldType.array t) && decide (U.vm.findClass ("[" ++ (FieldType.array t).toString) = some c) | _ => false) == some true)) hi).trans ?_
  simp [hk', hkind, f2]
def kPreC (D : va_G) (tys : List (ClassId × FieldType)) (W0 : va_W) (sz : Nat) : State → Prop := fun U => kPre D tys W0 sz U ∧ va_AOA .int U
def kBC (D : va_G) (A : Nat → Prop) (W1 : (Nat → Nat) → va_W) : (Nat → Nat) → State → Prop := fun u t => va_P D vwCl (W1 u) t.heap ∧ va_D A (W1 u)
abbrev kMC (l : Launch) (y : MethodName) (ws : List Cond) (rm : Room) (D : va_G) (tys : List (ClassId × FieldType)) (av : List Value) (W0 : va_W) (W1 : (Nat → Nat) → va_W) (P : (Nat → Nat) → Prop) (mc ms sz : Nat) : Prop :=
  Met l y ws rm (va_Pc av (kPreC D tys W0 sz)) (va_Qv P (kBC D (va_A W0 sz) W1) (va_A W0 sz)) mc ms (va_A W0 sz)
theorem kEnterC {l : Launch} {y : MethodName} {ws ws' : List Cond} {rm : Room} {D : va_G} {tys : List (ClassId × FieldType)} {av : List Value} {W0 : va_W} {sz : Nat} {Qc : Array Value → State → Outcome → State → Prop} {mc ms : Nat} {cc : ByteArray} {maxL : Nat} {ret : Option FieldType}
    (hy : plainFor y = true) (hw : ws = Cond.code y cc maxL ret :: ws') (hln : (lg_sl av).length ≤ maxL)
    (body : ∀ (p : Program) (e : Env) (s : State) (m : MethodId) (below : List Frame) (meth : Method) (c : Code) (args : Array Value), p.tables.exec = Jvm.exec → c.code = cc → meth.sig.returnType = ret → c.maxLocals = maxL → (∀ w ∈ ws, w.before args s = true) → s.vm.findClass y.cls = some m.cls → meth.locks = false → meth.name = y.name → va_K D vwCl tys s → kN s → va_AOA .int s →
      ∀ A : Nat → Prop, va_A W0 sz = A → ∀ Q : State → Prop, MQ below Qc args s mc ms (va_A W0 sz) = Q → va_P D vwCl W0 s.heap → va_D A W0 → s.heap.size = sz → va_S A s.heap s.heap [] → (∀ q : Nat, s.heap.size ≤ q → A q) → ∀ ls : Array Slot, lv_has ls maxL (lv_args 0 av) →
      W p l e rm s m args below meth c s.heap [] 0 0 Q (F0 m 0 ls [])) :
    Met l y ws rm (va_Pc av (kPreC D tys W0 sz)) Qc mc ms (va_A W0 sz) := by
  refine kOfW (cc := cc) (maxL := maxL) (ret := ret) hy hw ?_
  intro p e s m args below meth c s₁ B hml hv
  obtain ⟨rfl, ⟨hsz, hP, hK, hD0, hN⟩, hO⟩ := hv
  have hts := atoms_spec (ws := ws) B.pre
  have hown : s.vm.findClass y.cls = some m.cls := findClass_of_methodNamed B.named
  have hin : meth.name = y.name := (name_of_methodNamed B.named B.method).1
  have hl := lv_entry av (n := maxL) hln
  have h1 := body p e s m below meth c _ B.exec B.bytes B.returns hml hts hown B.notSynchronized hin hK hN hO _ rfl _ rfl hP (hD0.self (sz := sz)) hsz va_S.rf (fun q h => Or.inr (by rw [← hsz]; exact h)) _ hl
  rw [lg_entry_eq]
  exact h1
theorem kPreIC {D : va_G} {tys : List (ClassId × FieldType)} {ws W0 : va_W} {A0 : Nat → Prop} {H : Heap} {s : State} {As : List Value} (hK : va_K D vwCl tys s) (hN : kN s) (hO : va_AOA .int s) (hP : va_P D vwCl ws H) (hD : va_D A0 ws) (is : List Nat) (hn : va_nd is = true) (hC : is.map (fun i => ws[i]?) = W0.map some) : PreS s H (va_Pc As (kPreC D tys W0 H.size)) As :=
  ⟨fun a U g mk q => by obtain ⟨q0, ⟨q1, q2, q3, q4, q5⟩, q6⟩ := q; exact ⟨q0, ⟨q1, q2, va_K.moved (u := U) (U := U.calling g mk a) (Vm.Alike.refl U.vm) q3, q4, kN.blind (u := U) (U := U.calling g mk a) rfl q5⟩, va_AOA.moved (u := U) (U := U.calling g mk a) (Vm.Alike.refl U.vm) q6⟩, fun U hU hW => ⟨rfl, ⟨by rw [hU], by rw [hU]; exact kcutP hP is hC, va_K.moved hW.alike hK, (hD.sub is hn hC).weaken (fun _ _ _ _ => trivial), hN.warm hW⟩, hO.moved hW.alike⟩⟩
section KC
variable {p : Program} {l : Launch} {e : Env} {R : Room} {s : State} {m : MethodId} {args : Array Value} {below : List Frame} {meth : Method} {c : Code} {H : Heap} {locs : List Loc} {cells slots : Nat} {Q : State → Prop}
variable {pc : Nat} {ls : Array Slot} {rest st0 : List Value} {a : Array Value} {A0 : Nat → Prop} {H0 : Heap} {D : va_G} {ws W0 : va_W} {cc : ByteArray} {tys : List (ClassId × FieldType)}
theorem k_newa (hx : p.tables.exec = Jvm.exec) (hb : c.code = cc) {atype : ArrayType} (harr : (Cond.arrayClass (newarray.typeOf atype)).before args s = true) (ty : FieldType) (hty : newarray.typeOf atype = ty) (hno : refKind ty = false) (hK : va_K D vwCl tys s) (t0 : Nat) {cA : ClassId} (ht : tys[t0]? = some (cA, ty)) (hP : va_P D vwCl ws H) (hD : va_D A0 ws) (hS : va_S A0 H0 H locs) (hA : ∀ q, H0.size ≤ q → A0 q)
    (N : Nat) (hN : N < 2 ^ 20) {a0 : vp_A} (ha : ∀ cA : ClassId, vp_cell cA a0 = arrV cA N (fun _ => defaultValue ty)) (hbytes : N * componentBytes ty ≤ 536870912) (hcells : cells + 1 ≤ R.cells) (hslots : slots + N ≤ R.slots) (hdg : decode cc pc = .ok (.newarray atype, 2))
    (kk : ∀ (q : Nat) (H1 : Heap), va_P D vwCl (ws ++ [(q, .inl (cA, a0))]) H1 → va_D A0 (ws ++ [(q, .inl (cA, a0))]) → va_S A0 H0 H1 locs → W p l e R s m args below meth c H1 locs (cells + 1) (slots + N) Q (F0 m (pc + 2) ls (.ref q :: rest))) : W p l e R s m args below meth c H locs cells slots Q (F0 m pc ls (.int (nI N) :: rest)) := by
  refine va_newa hx hb harr hty hK hP hD hS hA ha (nI_pos (by omega)) (nI_clamp (by omega)) hbytes hcells hslots hdg (fun q cB H1 hK1 hP1 hD1 hS1 => ?_)
  have e : cB = cA := by
    have h1 := (hK.2 t0 _ ht).2
    have h2 := (hK1.2 tys.length (cB, ty) (by rw [List.getElem?_append_right (Nat.le_refl _), Nat.sub_self]; rfl)).2
    cases ty with
    | object C => simp [refKind] at hno
    | array t => simp [refKind] at hno
    | _ => exact Option.some.inj (h2.symm.trans h1)
  subst e
  exact kk q H1 hP1 hD1 hS1
/-- new int[N][K], its rows as a block -/
theorem k_mna (hx : p.tables.exec = Jvm.exec) (hb : c.code = cc) {own : String} {index : Nat} (hown : s.vm.findClass own = some m.cls) (hclink : (Cond.classLink own index "[[I").before args s = true) (hover : va_AOA .int s) (harr : (Cond.arrayClass .int).before args s = true)
    (hK : va_K D vwCl tys s) (t0 t1 : Nat) {cI cO : ClassId} (ht0 : tys[t0]? = some (cI, .int)) (ht1 : tys[t1]? = some (cO, .array .int)) (hP : va_P D vwCl ws H) (hD : va_D A0 ws) (hS : va_S A0 H0 H locs) (hA : ∀ q, H0.size ≤ q → A0 q) (N K : Nat) (hN : N < 2 ^ 10) (hK9 : K < 2 ^ 10)
    (hcells : cells + (1 + N) ≤ R.cells) (hslots : slots + (N + N * K) ≤ R.slots) (hdg : decode cc pc = .ok (.multianewarray index 2, 4))
    (kk : ∀ (q : Nat) (r : Nat → Nat) (H1 : Heap), va_P D vwCl ((ws ++ [(q, .inl (cO, N, .inr (.inr (.inr (.inr (fun i => some (r i)))))))]) ++ (rws cI K N r (fun _ _ => nI 0) ++ [])) H1 → va_D A0 ((ws ++ [(q, .inl (cO, N, .inr (.inr (.inr (.inr (fun i => some (r i)))))))]) ++ (rws cI K N r (fun _ _ => nI 0) ++ [])) → va_S A0 H0 H1 locs →
      W p l e R s m args below meth c H1 locs (cells + 1 + N) (slots + N + N * K) Q (F0 m (pc + 4) ls (.ref q :: rest))) : W p l e R s m args below meth c H locs cells slots Q (F0 m pc ls (.int (nI K) :: .int (nI N) :: rest)) := by
  have hcI : s.vm.findClass (FieldType.array .int).toString = some cI := (hK.2 t0 _ ht0).2
  have hcO : s.vm.findClass ("[" ++ (FieldType.array .int).toString) = some cO := (hK.2 t1 _ ht1).2
  refine va_mna (X := ws) (L := []) (f := fun _ => .inr (0, [])) (cy := cI) (z := (K, .inl (fun _ => nI 0))) (ty := .int) (N' := N) (K' := K) hx hb hown hclink hover harr hcI hK (by show va_P D vwCl (ws ++ []) H; rw [List.append_nil]; exact hP) (by show va_D A0 (ws ++ []); rw [List.append_nil]; exact hD) hS hA (nI_pos (by omega)) (nI_pos (by omega)) (nI_clamp (by omega)) (nI_clamp (by omega)) (by omega) (by show K * 4 ≤ _; omega) (by omega) rfl rfl hcells hslots (fun c => ?_) hdg (fun q r cA H1 hinj hni hK1 hP1 hD1 hS1 => ?_)
  · show ({ cls := c, slots := Array.replicate K (.int 0), vm := .none } : Cell) = arrV c K (fun j => .int (nI 0))
    exact arrV_new c K (.int 0)
  · have e : cA = cO := by
      have h2 := (hK1.2 tys.length (cA, .array .int) (by rw [List.getElem?_append_right (Nat.le_refl _), Nat.sub_self]; rfl)).2
      exact Option.some.inj (Eq.trans (Eq.symm h2) hcO)
    subst e
    have er : va_pl ([] ++ (List.range N).map r) (vr_up (fun _ => .inr (0, [])) ((List.range N).map r) (.inl (cI, (K, .inl (fun _ => nI 0))))) = rws cI K N r (fun _ _ => nI 0) ++ [] := by
      rw [List.append_nil, List.nil_append]
      unfold va_pl rws
      rw [List.map_map]
      apply List.map_congr_left
      intro i hi
      show (r i, vr_up _ _ _ (r i)) = _
      rw [vr_up_in (List.mem_map.mpr ⟨i, hi, rfl⟩)]
    rw [er] at hP1 hD1
    refine kk q r H1 ?_ ?_ hS1
    · intro k x hx9
      by_cases h1 : k = ws.length
      · subst h1
        have h2 : (q, (.inl (cA, N, .inr (.inr (.inr (.inr (fun i => some (r i)))))) : va_E)) = x := by
          rw [List.getElem?_append_left (by simp), List.getElem?_append_right (Nat.le_refl _), Nat.sub_self] at hx9
          exact Option.some.inj hx9
        subst h2
        have h3 := hP1 ws.length (q, .inl (cA, N, .inr (.inr (.inr (.inr (fun i => if i < N then some (r i) else none)))))) (by rw [List.getElem?_append_left (by simp), List.getElem?_append_right (Nat.le_refl _), Nat.sub_self]; rfl)
        have h4 : H1[q]? = some (arrV cA N (fun j => va_rf (if j < N then some (r j) else none))) := h3
        show H1[q]? = some (arrV cA N (fun j => va_rf (some (r j))))
        rw [h4]
        exact congrArg some (arrV_cg (fun j hj => by rw [if_pos hj]))
      · refine hP1 k x ?_
        rcases Nat.lt_trichotomy k ws.length with g | g | g
        · rw [List.getElem?_append_left (by simp; omega), List.getElem?_append_left g] at hx9 ⊢
          exact hx9
        · exact absurd g h1
        · rw [List.getElem?_append_right (by simp; omega)] at hx9 ⊢
          simpa using hx9
    · exact kfull hD1 (by simp)
theorem kRetC {sz mc ms : Nat} {W1 : (Nat → Nat) → va_W} {P : (Nat → Nat) → Prop} (u : Nat → Nat) (hu : P u) (hx : p.tables.exec = Jvm.exec) (hb : c.code = cc) (hr : meth.sig.returnType = none) (hlocks : meth.locks = false) (hP : va_P D vwCl (W1 u) H) (hD : va_D (va_A W0 sz) (W1 u)) (hS : va_S (va_A W0 sz) s.heap H locs) (hdg : decode cc pc = .ok (.return_, 1)) :
    W p l e R s m args below meth c H locs mc ms (MQ below (va_Qv P (kBC D (va_A W0 sz) W1) (va_A W0 sz)) args s mc ms (va_A W0 sz)) (F0 m pc ls []) :=
  W.vret hx hb hr (fun t ht hW => ⟨⟨u, rfl, hu, by rw [ht]; exact hP, hD⟩, hS.F ht⟩) hS.2.2 hdg hlocks
/-- a constructor's call: the cell W0 at the place i, the rest's places isR; behind it the rest and what has come -/
theorem kCallC {W1 : (Nat → Nat) → va_W} {P : (Nat → Nat) → Prop} {wr : va_W} {mc ms : Nat} (hP : va_P D vwCl ws H) (hD : va_D A0 ws) (hS : va_S A0 H0 H locs) (hA : ∀ q, H0.size ≤ q → A0 q) (isC isR : List Nat) (hC : isC.map (fun i => ws[i]?) = W0.map some) (hR : isR.map (fun i => ws[i]?) = wr.map some) (hn : va_nd isR = true) (hdis : ∀ i ∈ isR, i ∉ isC)
    (hr : va_Run p l e R s m args below meth c H locs cells slots mc ms (F0 m pc ls st0) rest (va_Qv P (kBC D (va_A W0 H.size) W1) (va_A W0 H.size) a) (va_A W0 H.size))
    (kk : ∀ (u : Nat → Nat) (H1 : Heap) (locs1 : List Loc), P u → va_P D vwCl (wr ++ W1 u) H1 → va_D A0 (wr ++ W1 u) → va_S A0 H0 H1 locs1 → W p l e R s m args below meth c H1 locs1 (cells + mc) (slots + ms) Q (F0 m (pc + 3) ls rest)) : W p l e R s m args below meth c H locs cells slots Q (F0 m pc ls st0) := by
  have hFc := va_free hD hS hA isC hC
  refine va_callv hr hS (fun q _ h => hFc q h) hFc (fun u t H1 locs1 ht hvm hu hB hz hk hS1 => ?_)
  obtain ⟨hB1, hB2⟩ : va_P D vwCl (W1 u) t.heap ∧ va_D (va_A W0 H.size) (W1 u) := hB
  rw [ht] at hB1
  obtain ⟨h1, h2⟩ := va_join hP hD isC isR hC hR hn hdis hk hFc hB1 hB2
  exact kk u H1 locs1 hu h1 h2 hS1
end KC
/-! the rows that the constructors lay -/
def iEf : Nat → Nat → Nat → Int32
  | 0 => fun _ _ => nI 0
  | n + 1 => va_up (va_up (va_up (iEf n) n (upd (iEf n n) n (nI 60))) 6 (upd (va_up (iEf n) n (upd (iEf n n) n (nI 60)) 6) n (nI 20))) 7 (upd (va_up (va_up (iEf n) n (upd (iEf n n) n (nI 60))) 6 (upd (va_up (iEf n) n (upd (iEf n n) n (nI 60)) 6) n (nI 20)) 7) n (nI 20))
def iEm : Nat → Nat → Int32
  | 0 => fun _ => nI 0
  | n + 1 => upd (upd (upd (iEm n) (6 * n + n) (nI 60)) (36 + n) (nI 20)) (42 + n) (nI 20)
def wS (cI cO : ClassId) (b : Nat → Nat) (Lo Se : Nat → Int32) (Ef : Nat → Nat → Int32) (gp gi am li : Int32) (dl : Nat) : va_W :=
  [(b 0, .inr (1, [.ref (b 1), .ref (b 2), .ref (b 3), .int gp, .int gi, .int am, .int li, .int (nI dl)])), (b 1, .inl (cI, 6, .inl Lo)), (b 2, .inl (cI, 6, .inl Se)), (b 3, .inl (cO, 8, .inr (.inr (.inr (.inr (fun i => some (b (4 + i))))))))] ++ (rws cI 6 8 (fun k => b (4 + k)) Ef ++ [])
def wHa (cI cZ cO : ClassId) (a : Nat → Nat) (T E Dm F S : Nat → Int32) (C : Nat → Nat → Int32) (la : Nat) : va_W :=
  [(a 0, .inr (0, [.ref (a 1), .ref (a 2), .ref (a 3), .ref (a 4), .ref (a 5), .ref (a 6), .int (nI la)])), (a 1, .inl (cI, 6, .inl T)), (a 2, .inl (cI, 6, .inl E)), (a 3, .inl (cI, 6, .inl Dm)), (a 4, .inl (cZ, 8, .inl F)), (a 5, .inl (cI, 8, .inl S)), (a 6, .inl (cO, 9, .inr (.inr (.inr (.inr (fun i => some (a (7 + i))))))))] ++ (rws cI 8 9 (fun k => a (7 + k)) C ++ [])
def kCat (l : List Nat) (r : Nat → Nat) : Nat → Nat := fun i => if i < l.length then l.getD i 0 else r (i - l.length)
theorem kCat_add (l : List Nat) (r : Nat → Nat) (i : Nat) : kCat l r (l.length + i) = r i := by
  unfold kCat
  rw [if_neg (by omega), Nat.add_sub_cancel_left]
def kFour (x a t b : Nat → Nat) : Nat → Nat := fun k => if k % 4 = 0 then x (k / 4) else if k % 4 = 1 then a (k / 4) else if k % 4 = 2 then t (k / 4) else b (k / 4)
theorem kFour_0 (x a t b : Nat → Nat) : (fun i => kFour x a t b (4 * i)) = x := by
  funext i
  unfold kFour
  rw [if_pos (by omega), show 4 * i / 4 = i from by omega]
theorem kFour_1 (x a t b : Nat → Nat) : (fun i => kFour x a t b (4 * i + 1)) = a := by
  funext i
  unfold kFour
  rw [if_neg (by omega), if_pos (by omega), show (4 * i + 1) / 4 = i from by omega]
theorem kFour_2 (x a t b : Nat → Nat) : (fun i => kFour x a t b (4 * i + 2)) = t := by
  funext i
  unfold kFour
  rw [if_neg (by omega), if_neg (by omega), if_pos (by omega), show (4 * i + 2) / 4 = i from by omega]
theorem kFour_3 (x a t b : Nat → Nat) : (fun i => kFour x a t b (4 * i + 3)) = b := by
  funext i
  unfold kFour
  rw [if_neg (by omega), if_neg (by omega), if_neg (by omega), show (4 * i + 3) / 4 = i from by omega]
