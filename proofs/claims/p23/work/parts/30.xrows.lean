/-! ===== methods that throw ===== -/
def nIAE : String := "java/lang/IllegalArgumentException"
def nISE : String := "java/lang/IllegalStateException"
def xB_iae : List Cond := (vx_atS RX2 141 "java/lang/IllegalArgumentException" ["java/lang/RuntimeException", "java/lang/Exception"]).filter (fun w => !goodWord w)
def xB_ise : List Cond := (vx_atS RX2 81 "java/lang/IllegalStateException" ["java/lang/RuntimeException", "java/lang/Exception"]).filter (fun w => !goodWord w)
theorem xB_iae_ok : xB_iae.all (fun w => w.onTables && w.warmB w.codeNames) = true := by decide +kernel
theorem xB_ise_ok : xB_ise.all (fun w => w.onTables && w.warmB w.codeNames) = true := by decide +kernel
def kXw (B : List Cond) (U : State) : Prop := ∀ w ∈ B, w.before #[] U = true
theorem kXw.blind {B : List Cond} (hB : B.all (fun w => w.onTables && w.warmB w.codeNames) = true) {u U : State} (hv : u.vm = U.vm) (h : kXw B u) : kXw B U := fun w hw => by
  have h1 := List.all_eq_true.mp hB w hw
  rw [Bool.and_eq_true] at h1
  exact va_tabs h1.1 hv (h w hw)
theorem kXw.use {B : List Cond} (hB : B.all (fun w => w.onTables && w.warmB w.codeNames) = true) {U : State} {args : Array Value} (h : kXw B U) : ∀ w ∈ B, w.before args U = true := fun w hw => by
  have h1 := List.all_eq_true.mp hB w hw
  rw [Bool.and_eq_true] at h1
  exact va_tabs h1.1 rfl (h w hw)
theorem kXw.warm {B : List Cond} (hB : B.all (fun w => w.onTables && w.warmB w.codeNames) = true) {s U : State} (hW : s.WarmedH U.vm) (h : kXw B s) : kXw B U := fun w hw => by
  have h1 := List.all_eq_true.mp hB w hw
  rw [Bool.and_eq_true] at h1
  exact va_tabs h1.1 (rfl : (s.setVm U.vm).vm = U.vm) (Cond.pre_warmed hW h1.2 (h w hw))
/-- what a throw needs of the state: two statics, four texts, two words -/
def kX (A : Nat → Prop) (U : State) (H : Heap) : Prop :=
  vx_Zq Bundle.tN "UNASSIGNED_STACK" Bundle.steD A U H ∧ vx_Zq Bundle.tN "SUPPRESSED_SENTINEL" Bundle.listD A U H ∧
  (∃ sa, vk_R RX2 139 "an argument is out of range" sa U) ∧ (∃ sa, vk_R RX2 79 "the fan has failed already" sa U) ∧ (∃ sa, vk_R RX2 91 "the fan has not failed" sa U) ∧ (∃ sa, vk_R RX2 101 "the clock would be above its greatest value" sa U) ∧
  kXw xB_iae U ∧ kXw xB_ise U
theorem kX.blind {A : Nat → Prop} {U V : State} {H : Heap} (hv : V.vm = U.vm) (h : kX A U H) : kX A V H := by
  obtain ⟨h1, h2, ⟨s1, h3⟩, ⟨s2, h4⟩, ⟨s3, h5⟩, ⟨s4, h6⟩, h7, h8⟩ := h
  have ha : U.vm.Alike V.vm := by rw [hv]; exact Vm.Alike.refl U.vm
  exact ⟨h1.moved ha, h2.moved ha, ⟨s1, vk_R.same hv h3⟩, ⟨s2, vk_R.same hv h4⟩, ⟨s3, vk_R.same hv h5⟩, ⟨s4, vk_R.same hv h6⟩, h7.blind xB_iae_ok hv.symm, h8.blind xB_ise_ok hv.symm⟩
theorem kX.call {A A1 : Nat → Prop} {s U : State} {H : Heap} {locs : List Loc} (h : kX A s s.heap) (hS : va_S A s.heap H locs) (hA : ∀ q, A1 q → A q) (hW : s.WarmedH U.vm) : kX A1 U H := by
  obtain ⟨h1, h2, ⟨s1, h3⟩, ⟨s2, h4⟩, ⟨s3, h5⟩, ⟨s4, h6⟩, h7, h8⟩ := h
  exact ⟨((h1.kept hS.2.1).narrow hA).moved hW.alike, ((h2.kept hS.2.1).narrow hA).moved hW.alike, ⟨s1, vk_R.warm hW h3⟩, ⟨s2, vk_R.warm hW h4⟩, ⟨s3, vk_R.warm hW h5⟩, ⟨s4, vk_R.warm hW h6⟩, h7.warm xB_iae_ok hW, h8.warm xB_ise_ok hW⟩
def kPreX (D : va_G) (tys : List (ClassId × FieldType)) (W0 : va_W) (sz : Nat) : State → Prop := fun U => kPre D tys W0 sz U ∧ kX (va_A W0 sz) U U.heap
def kBX (D : va_G) (W0 : va_W) (E : String) : String → Unit → State → Prop := fun E' _ t => E' = E ∧ va_P D vwCl W0 t.heap
abbrev kMxv (l : Launch) (y : MethodName) (ws : List Cond) (rm : Room) (D : va_G) (tys : List (ClassId × FieldType)) (av : List Value) (W0 : va_W) (sz : Nat) (E : String) : Prop :=
  vx_Met l y ws rm (va_Pc av (kPreX D tys W0 sz)) (va_Qv (fun (_ : Unit) => False) (fun _ _ => True) (va_A W0 sz)) (vx_X (fun (_ : Unit) => True) (kBX D W0 E) (va_A W0 sz)) 1 6 (va_A W0 sz)
abbrev kMxi (l : Launch) (y : MethodName) (ws : List Cond) (rm : Room) (D : va_G) (tys : List (ClassId × FieldType)) (av : List Value) (W0 : va_W) (sz : Nat) (E : String) : Prop :=
  vx_Met l y ws rm (va_Pc av (kPreX D tys W0 sz)) (va_Qi (fun (_ : Int32) (_ : Unit) => False) (fun _ _ => True) (va_A W0 sz)) (vx_X (fun (_ : Unit) => True) (kBX D W0 E) (va_A W0 sz)) 1 6 (va_A W0 sz)
theorem kEnterX {l : Launch} {y : MethodName} {ws ws' : List Cond} {rm : Room} {D : va_G} {tys : List (ClassId × FieldType)} {av : List Value} {W0 : va_W} {sz : Nat} {Qc : Array Value → State → Outcome → State → Prop} {XC : String → State → State → Prop} {mc ms : Nat} {cc : ByteArray} {maxL : Nat} {ret : Option FieldType}
    (hy : plainName y.cls = true) (hw : ws = Cond.code y cc maxL ret :: ws') (hln : (lg_sl av).length ≤ maxL)
    (body : ∀ (p : Program) (e : Env) (s : State) (m : MethodId) (below : List Frame) (meth : Method) (c : Code) (args : Array Value), p.tables.exec = Jvm.exec → c.code = cc → meth.sig.returnType = ret → c.maxLocals = maxL → (∀ w ∈ ws, w.before args s = true) → s.vm.findClass y.cls = some m.cls → meth.locks = false → (∀ x ∈ c.exceptionTable.toList, False) → va_K D vwCl tys s → kN s →
      ∀ A : Nat → Prop, va_A W0 sz = A → ∀ Q : State → Prop, vx_MQ below Qc XC args s mc ms (va_A W0 sz) = Q → va_P D vwCl W0 s.heap → va_D A W0 → s.heap.size = sz → va_S A s.heap s.heap [] → (∀ q : Nat, s.heap.size ≤ q → A q) → kX A s s.heap → ∀ ls : Array Slot, lv_has ls maxL (lv_args 0 av) →
      W p l e rm s m args below meth c s.heap [] 0 0 Q (F0 m 0 ls [])) :
    vx_Met l y ws rm (va_Pc av (kPreX D tys W0 sz)) Qc XC mc ms (va_A W0 sz) := by
  refine vx_ofW (cc := cc) (maxL := maxL) (ret := ret) hy hw ?_
  intro p e s m args below meth c s₁ B hml hno hv
  obtain ⟨rfl, ⟨hsz, hP, hK, hD0, hN⟩, hX⟩ := hv
  have hts := atoms_spec (ws := ws) B.pre
  have hown : s.vm.findClass y.cls = some m.cls := findClass_of_methodNamed B.named
  have hl := lv_entry av (n := maxL) hln
  have h1 := body p e s m below meth c _ B.exec B.bytes B.returns hml hts hown B.notSynchronized hno hK hN _ rfl _ rfl hP (hD0.self (sz := sz)) hsz va_S.rf (fun q h => Or.inr (by rw [← hsz]; exact h)) hX _ hl
  rw [lg_entry_eq]
  exact h1
theorem kset_id : ∀ (is : List Nat) (W0 ws : va_W), is.map (fun i => ws[i]?) = W0.map some → kset ws is W0 = ws
  | [], W0, ws, h => by unfold kset; rfl
  | i :: is, [], ws, h => by simp at h
  | i :: is, e :: es, ws, h => by
    have h1 : ws[i]? = some e := by
      have := congrArg (fun l => l[0]?) h
      simpa using this
    have h2 : is.map (fun i => ws[i]?) = es.map some := by
      have := congrArg List.tail h
      simpa using this
    have h3 : ws.set i e = ws := by
      apply List.ext_getElem?
      intro k
      by_cases hk : i = k
      · subst hk; rw [List.getElem?_set_self (List.getElem?_eq_some_iff.mp h1).1, h1]
      · rw [List.getElem?_set_ne hk]
    unfold kset
    rw [h3]
    exact kset_id is es ws h2
section KX
variable {p : Program} {l : Launch} {e : Env} {R : Room} {s : State} {m : MethodId} {args : Array Value} {below : List Frame} {meth : Method} {c : Code} {H : Heap} {locs : List Loc} {cells slots : Nat} {Q : State → Prop}
variable {pc : Nat} {ls : Array Slot} {rest st0 : List Value} {a : Array Value} {A0 : Nat → Prop} {D : va_G} {ws W0 : va_W} {cc : ByteArray} {tys : List (ClassId × FieldType)} {E : String}
theorem kPreSX {As : List Value} (hK : va_K D vwCl tys s) (hN : kN s) (hX : kX A0 s s.heap) (hP : va_P D vwCl ws H) (hD : va_D A0 ws) (hS : va_S A0 s.heap H locs) (hA : ∀ q, s.heap.size ≤ q → A0 q) (is : List Nat) (hn : va_nd is = true) (hC : is.map (fun i => ws[i]?) = W0.map some) : PreS s H (va_Pc As (kPreX D tys W0 H.size)) As :=
  ⟨fun a U g mk q => by obtain ⟨q0, ⟨q1, q2, q3, q4, q5⟩, q6⟩ := q; exact ⟨q0, ⟨q1, q2, va_K.moved (u := U) (U := U.calling g mk a) (Vm.Alike.refl U.vm) q3, q4, kN.blind (u := U) (U := U.calling g mk a) rfl q5⟩, kX.blind (U := U) (V := U.calling g mk a) rfl q6⟩, fun U hU hW => ⟨rfl, ⟨by rw [hU], by rw [hU]; exact kcutP hP is hC, va_K.moved hW.alike hK, (hD.sub is hn hC).weaken (fun _ _ _ _ => trivial), hN.warm hW⟩, by rw [hU]; exact hX.call hS (va_free hD hS hA is hC) hW⟩⟩
theorem kPreVX {As : List Value} {C : String} {b : Nat} (hK : va_K D vwCl tys s) (hN : kN s) (hX : kX A0 s s.heap) (hP : va_P D vwCl ws H) (hD : va_D A0 ws) (hS : va_S A0 s.heap H locs) (hA : ∀ q, s.heap.size ≤ q → A0 q) (is : List Nat) (hn : va_nd is = true) (hC : is.map (fun i => ws[i]?) = W0.map some)
    (hr : ∃ cell : Cell, H[b]? = some cell ∧ cell.vm.isStatics = false ∧ s.vm.findClass C = some cell.cls) : PreV s H C b (va_Pc (.ref b :: As) (kPreX D tys W0 H.size)) As :=
  ⟨(kPreSX (As := .ref b :: As) hK hN hX hP hD hS hA is hn hC).1, hr, (kPreSX (As := .ref b :: As) hK hN hX hP hD hS hA is hn hC).2⟩
theorem kCallX_v (hP : va_P D vwCl ws H) (hD : va_D A0 ws) (hS : va_S A0 s.heap H locs) (hA : ∀ q, s.heap.size ≤ q → A0 q) (is : List Nat) (hC : is.map (fun i => ws[i]?) = W0.map some)
    (hr : vx_Run p l e R s m args below meth c H locs cells slots 1 6 (F0 m pc ls st0) rest (va_Qv (fun (_ : Unit) => False) (fun _ _ => True) (va_A W0 H.size) a) (vx_X (fun (_ : Unit) => True) (kBX D W0 E) (va_A W0 H.size)) (va_A W0 H.size))
    (kx : ∀ (ce : Cell) (q9 : Addr) (H1 : Heap) (locs1 : List Loc), va_P D vwCl ws H1 → va_D A0 ws → va_S A0 s.heap H1 locs1 → H1[q9]? = some ce → ce.vm = .none → s.vm.findClass E = some ce.cls → vx_W p l e R s m args below meth c H1 locs1 (cells + 1) (slots + 6) Q (F0 m pc ls rest) q9) : W p l e R s m args below meth c H locs cells slots Q (F0 m pc ls st0) := by
  have hFc := va_free hD hS hA is hC
  refine vx_callv hr hS (fun q _ h => hFc q h) hFc (fun q _ h => hFc q h) (fun E' ce q9 u t H1 locs1 ht hvm hp hB hz hk hS1 hce hcv hcl => ?_) (fun u t H1 locs1 ht hvm hp => False.elim hp)
  obtain ⟨rfl, hB⟩ : E' = E ∧ va_P D vwCl W0 t.heap := hB
  rw [ht] at hB
  obtain ⟨h1, h2⟩ := kframe hP hD is hC rfl hk hB
  rw [kset_id is W0 ws hC] at h1
  exact kx ce q9 H1 locs1 h1 hD hS1 hce hcv hcl
theorem kCallX_i (hP : va_P D vwCl ws H) (hD : va_D A0 ws) (hS : va_S A0 s.heap H locs) (hA : ∀ q, s.heap.size ≤ q → A0 q) (is : List Nat) (hC : is.map (fun i => ws[i]?) = W0.map some)
    (hr : vx_Run p l e R s m args below meth c H locs cells slots 1 6 (F0 m pc ls st0) rest (va_Qi (fun (_ : Int32) (_ : Unit) => False) (fun _ _ => True) (va_A W0 H.size) a) (vx_X (fun (_ : Unit) => True) (kBX D W0 E) (va_A W0 H.size)) (va_A W0 H.size))
    (kx : ∀ (ce : Cell) (q9 : Addr) (H1 : Heap) (locs1 : List Loc), va_P D vwCl ws H1 → va_D A0 ws → va_S A0 s.heap H1 locs1 → H1[q9]? = some ce → ce.vm = .none → s.vm.findClass E = some ce.cls → vx_W p l e R s m args below meth c H1 locs1 (cells + 1) (slots + 6) Q (F0 m pc ls rest) q9) : W p l e R s m args below meth c H locs cells slots Q (F0 m pc ls st0) := by
  have hFc := va_free hD hS hA is hC
  refine vx_calli hr hS (fun q _ h => hFc q h) hFc (fun q _ h => hFc q h) (fun E' ce q9 u t H1 locs1 ht hvm hp hB hz hk hS1 hce hcv hcl => ?_) (fun r u t H1 locs1 ht hvm hp => False.elim hp)
  obtain ⟨rfl, hB⟩ : E' = E ∧ va_P D vwCl W0 t.heap := hB
  rw [ht] at hB
  obtain ⟨h1, h2⟩ := kframe hP hD is hC rfl hk hB
  rw [kset_id is W0 ws hC] at h1
  exact kx ce q9 H1 locs1 h1 hD hS1 hce hcv hcl
/-- not caught here -/
theorem kOut {Qc : Array Value → State → Outcome → State → Prop} {sz : Nat} {ce : Cell} {q9 : Addr} (hno : ∀ x ∈ c.exceptionTable.toList, False) (hlocks : meth.locks = false) (hP : va_P D vwCl W0 H) (hS : va_S (va_A W0 sz) s.heap H locs) (hce : H[q9]? = some ce) (hcv : ce.vm = .none) (hcl : s.vm.findClass E = some ce.cls) (hc : cells ≤ 1) (hs : slots ≤ 6) :
    vx_W p l e R s m args below meth c H locs cells slots (vx_MQ below Qc (vx_X (fun (_ : Unit) => True) (kBX D W0 E) (va_A W0 sz)) args s 1 6 (va_A W0 sz)) (F0 m pc ls rest) q9 :=
  vx_out (fun x hx => (hno x hx).elim) hlocks hce hcv hcl (fun t ht _ => ⟨(), trivial, ⟨rfl, by show va_P D vwCl W0 t.heap; rw [ht]; exact hP⟩, hS.F ht⟩) hS.2.2 hc hs
/-- 'throw new E(text)' as a method's end -/
theorem kThrow {Qc : Array Value → State → Outcome → State → Prop} {sz : Nat} (hx : p.tables.exec = Jvm.exec) (hb : c.code = cc) (hst : l.stackTraces = false) {own text : String} {names : List String} {ik is ic sa : Nat}
    (hown : s.vm.findClass own = some m.cls) (hcls : Bundle.fit E = true) (hnames : ∀ n ∈ names, Bundle.fit n = true)
    (hk : (Cond.classLink own ik E).before args s = true) (hini : (Cond.initialized E).before args s = true) (hstr : vk_R own is text sa s) (hat : ∀ w ∈ vx_atS own ic E names, w.before args s = true)
    (hgood : ∀ w ∈ Cond.classLink own ik E :: Cond.initialized E :: vx_atS own ic E names, vx_ot w = true)
    (hX : kX (va_A W0 sz) s s.heap) (hP : va_P D vwCl W0 H) (hS : va_S (va_A W0 sz) s.heap H locs) (hsize : ls.size = c.maxLocals)
    (d0 : decode cc pc = .ok (.new ik, 3)) (d3 : decode cc (pc + 3) = .ok (.dup, 1)) (d4 : decode cc (pc + 4) = .ok (.ldc is, 2)) (d6 : decode cc (pc + 6) = .ok (.invokespecial ic, 3)) (d9 : decode cc (pc + 9) = .ok (.athrow, 1))
    (hno : ∀ x ∈ c.exceptionTable.toList, False) (hRframes : names.length + 3 < R.frames) (hRlocals : (rest.map fun v => v.category).sum + (13 * (names.length + 1) + 43) ≤ R.locals) (hRcells : 0 + 1 ≤ R.cells) (hRslots : 0 + 6 ≤ R.slots) (hlocks : meth.locks = false) :
    W p l e R s m args below meth c H locs 0 0 (vx_MQ below Qc (vx_X (fun (_ : Unit) => True) (kBX D W0 E) (va_A W0 sz)) args s 1 6 (va_A W0 sz)) (F0 m pc ls rest) :=
  vx_throwS hx hb hst hown hcls hnames hk hini hstr hat hgood hX.1 hX.2.1 hS hsize d0 d3 d4 d6 d9 (fun x h => (hno x h).elim) hRframes hRlocals hRcells hRslots hlocks
    (fun t _ hz hq => ⟨(), trivial, ⟨rfl, fun k q hk => (hP k q hk).kept (hq q.1 ((hP k q hk).lt))⟩, ⟨Nat.le_trans hS.1 hz, fun q h1 h2 => (hq q (Nat.lt_of_lt_of_le h1 hS.1)).trans (hS.2.1 q h1 h2)⟩⟩) hS.2.2 (Nat.le_refl 1) (Nat.le_refl 6)
end KX
theorem xg_iae : ∀ w ∈ Cond.classLink RX2 137 "java/lang/IllegalArgumentException" :: Cond.initialized "java/lang/IllegalArgumentException" :: vx_atS RX2 141 "java/lang/IllegalArgumentException" ["java/lang/RuntimeException", "java/lang/Exception"], vx_ot w = true := by decide +kernel
theorem xg_ise : ∀ w ∈ Cond.classLink RX2 77 "java/lang/IllegalStateException" :: Cond.initialized "java/lang/IllegalStateException" :: vx_atS RX2 81 "java/lang/IllegalStateException" ["java/lang/RuntimeException", "java/lang/Exception"], vx_ot w = true := by decide +kernel
