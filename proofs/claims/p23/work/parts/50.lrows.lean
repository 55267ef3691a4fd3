/-! ===== the law's helpers: methods with a table of their own ===== -/
theorem pfP {D : va_G} {a b : va_W} {H : Heap} (h : va_P D vwCl (a ++ b) H) : va_P D vwCl a H := fun k q hk => h k q (by rw [List.getElem?_append_left (List.getElem?_eq_some_iff.mp hk).1]; exact hk)
theorem sfG {a b : va_W} {k : Nat} {q : Nat × va_E} (hk : b[k]? = some q) : (a ++ b)[a.length + k]? = some q := by
  rw [List.getElem?_append_right (Nat.le_add_right _ _), Nat.add_sub_cancel_left]; exact hk
theorem pfG {a b : va_W} {k : Nat} {q : Nat × va_E} (hk : a[k]? = some q) : (a ++ b)[k]? = some q := by
  rw [List.getElem?_append_left (List.getElem?_eq_some_iff.mp hk).1]; exact hk
theorem sfP {D : va_G} {a b : va_W} {H : Heap} (h : va_P D vwCl (a ++ b) H) : va_P D vwCl b H := fun k q hk => h (a.length + k) q (sfG hk)
theorem pfD {A : Nat → Prop} {a b : va_W} (h : va_D A (a ++ b)) : va_D A a := ⟨fun i j x y hx hy e => h.1 i j x y (pfG hx) (pfG hy) e, fun k q hk => h.2 k q (pfG hk)⟩
theorem sfD {A : Nat → Prop} {a b : va_W} (h : va_D A (a ++ b)) : va_D A b := ⟨fun i j x y hx hy e => by
  have := h.1 (a.length + i) (a.length + j) x y (sfG hx) (sfG hy) e
  omega, fun k q hk => h.2 (a.length + k) q (sfG hk)⟩
theorem jnP {D : va_G} {a b : va_W} {H : Heap} (h1 : va_P D vwCl a H) (h2 : va_P D vwCl b H) : va_P D vwCl (a ++ b) H := fun k q hk => by
  rcases Nat.lt_or_ge k a.length with g | g
  · rw [List.getElem?_append_left g] at hk; exact h1 k q hk
  · rw [List.getElem?_append_right g] at hk; exact h2 _ q hk
theorem kpS {A0 : Nat → Prop} {D : va_G} {a b : va_W} {H H1 : Heap} (hP : va_P D vwCl (a ++ b) H) (hD : va_D A0 (a ++ b)) (hk : ∀ q : Nat, q < H.size → ¬ va_A a H.size q → H1[q]? = H[q]?) : va_P D vwCl b H1 := fun k q hq => by
  have h0 : (a ++ b)[a.length + k]? = some q := sfG hq
  refine (hP _ q h0).kept (hk q.1 ((hP _ q h0).lt) ?_)
  rintro (⟨j, e9, h3⟩ | h3)
  · have hj : j < a.length := (List.getElem?_eq_some_iff.mp h3).1
    have := hD.1 (a.length + k) j q (q.1, e9) h0 (pfG h3) rfl
    omega
  · exact absurd ((hP _ q h0).lt) (Nat.not_lt.mpr h3)
theorem kpP {A0 : Nat → Prop} {D : va_G} {a b : va_W} {H H1 : Heap} (hP : va_P D vwCl (a ++ b) H) (hD : va_D A0 (a ++ b)) (hk : ∀ q : Nat, q < H.size → ¬ va_A b H.size q → H1[q]? = H[q]?) : va_P D vwCl a H1 := fun k q hq => by
  have h0 : (a ++ b)[k]? = some q := pfG hq
  have hj : k < a.length := (List.getElem?_eq_some_iff.mp hq).1
  refine (hP _ q h0).kept (hk q.1 ((hP _ q h0).lt) ?_)
  rintro (⟨j, e9, h3⟩ | h3)
  · have := hD.1 k (a.length + j) q (q.1, e9) h0 (sfG h3) rfl
    omega
  · exact absurd ((hP _ q h0).lt) (Nat.not_lt.mpr h3)
section KL1
variable {p : Program} {l : Launch} {e : Env} {R : Room} {s : State} {m : MethodId} {args : Array Value} {below : List Frame} {meth : Method} {c : Code} {H : Heap} {locs : List Loc} {cells slots mc ms : Nat} {Q : State → Prop}
variable {pc : Nat} {ls : Array Slot} {rest st0 : List Value} {a : Array Value} {A0 : Nat → Prop} {H0 : Heap} {D : va_G} {T W0 : va_W} {cc : ByteArray} {tys : List (ClassId × FieldType)} {E : String}
theorem kCallP_i {S : Type} {W1 : S → va_W} {post : Int32 → S → Prop} {B : S → State → Prop} (hB : ∀ u t, B u t → va_P D vwCl (W1 u) t.heap) (hP : va_P D vwCl (W0 ++ T) H) (hD : va_D A0 (W0 ++ T)) (hS : va_S A0 H0 H locs) (hA : ∀ q, H0.size ≤ q → A0 q) (hF : ∀ u, (W1 u).map (·.1) = W0.map (·.1))
    (hr : va_Run p l e R s m args below meth c H locs cells slots mc ms (F0 m pc ls st0) rest (va_Qi post B (va_A W0 H.size) a) (va_A W0 H.size))
    (kk : ∀ (x : Int32) (u : S) (H1 : Heap) (locs1 : List Loc), post x u → va_P D vwCl (W1 u ++ T) H1 → va_D A0 (W1 u ++ T) → va_S A0 H0 H1 locs1 → W p l e R s m args below meth c H1 locs1 (cells + mc) (slots + ms) Q (F0 m (pc + 3) ls (.int x :: rest))) : W p l e R s m args below meth c H locs cells slots Q (F0 m pc ls st0) := by
  have hFc := kfree (pfD hD) hS hA
  refine va_calli hr hS (fun q _ h => hFc q h) hFc (fun x u t H1 locs1 ht hvm hx hB9 hz hk hS1 => ?_)
  have hB1 := hB u t hB9
  rw [ht] at hB1
  exact kk x u H1 locs1 hx (jnP hB1 (kpS hP hD hk)) (kfull hD (by rw [List.map_append, List.map_append, hF])) hS1
theorem kCallP_v {S : Type} {W1 : S → va_W} {post : S → Prop} {B : S → State → Prop} (hB : ∀ u t, B u t → va_P D vwCl (W1 u) t.heap) (hP : va_P D vwCl (W0 ++ T) H) (hD : va_D A0 (W0 ++ T)) (hS : va_S A0 H0 H locs) (hA : ∀ q, H0.size ≤ q → A0 q) (hF : ∀ u, (W1 u).map (·.1) = W0.map (·.1))
    (hr : va_Run p l e R s m args below meth c H locs cells slots mc ms (F0 m pc ls st0) rest (va_Qv post B (va_A W0 H.size) a) (va_A W0 H.size))
    (kk : ∀ (u : S) (H1 : Heap) (locs1 : List Loc), post u → va_P D vwCl (W1 u ++ T) H1 → va_D A0 (W1 u ++ T) → va_S A0 H0 H1 locs1 → W p l e R s m args below meth c H1 locs1 (cells + mc) (slots + ms) Q (F0 m (pc + 3) ls rest)) : W p l e R s m args below meth c H locs cells slots Q (F0 m pc ls st0) := by
  have hFc := kfree (pfD hD) hS hA
  refine va_callv hr hS (fun q _ h => hFc q h) hFc (fun u t H1 locs1 ht hvm hx hB9 hz hk hS1 => ?_)
  have hB1 := hB u t hB9
  rw [ht] at hB1
  exact kk u H1 locs1 hx (jnP hB1 (kpS hP hD hk)) (kfull hD (by rw [List.map_append, List.map_append, hF])) hS1
theorem kCallS_i {S : Type} {W1 : S → va_W} {post : Int32 → S → Prop} {B : S → State → Prop} (hB : ∀ u t, B u t → va_P D vwCl (W1 u) t.heap) (hP : va_P D vwCl (T ++ W0) H) (hD : va_D A0 (T ++ W0)) (hS : va_S A0 H0 H locs) (hA : ∀ q, H0.size ≤ q → A0 q) (hF : ∀ u, (W1 u).map (·.1) = W0.map (·.1))
    (hr : va_Run p l e R s m args below meth c H locs cells slots mc ms (F0 m pc ls st0) rest (va_Qi post B (va_A W0 H.size) a) (va_A W0 H.size))
    (kk : ∀ (x : Int32) (u : S) (H1 : Heap) (locs1 : List Loc), post x u → va_P D vwCl (T ++ W1 u) H1 → va_D A0 (T ++ W1 u) → va_S A0 H0 H1 locs1 → W p l e R s m args below meth c H1 locs1 (cells + mc) (slots + ms) Q (F0 m (pc + 3) ls (.int x :: rest))) : W p l e R s m args below meth c H locs cells slots Q (F0 m pc ls st0) := by
  have hFc := kfree (sfD hD) hS hA
  refine va_calli hr hS (fun q _ h => hFc q h) hFc (fun x u t H1 locs1 ht hvm hx hB9 hz hk hS1 => ?_)
  have hB1 := hB u t hB9
  rw [ht] at hB1
  exact kk x u H1 locs1 hx (jnP (kpP hP hD hk) hB1) (kfull hD (by rw [List.map_append, List.map_append, hF])) hS1
theorem kCallS_v {S : Type} {W1 : S → va_W} {post : S → Prop} {B : S → State → Prop} (hB : ∀ u t, B u t → va_P D vwCl (W1 u) t.heap) (hP : va_P D vwCl (T ++ W0) H) (hD : va_D A0 (T ++ W0)) (hS : va_S A0 H0 H locs) (hA : ∀ q, H0.size ≤ q → A0 q) (hF : ∀ u, (W1 u).map (·.1) = W0.map (·.1))
    (hr : va_Run p l e R s m args below meth c H locs cells slots mc ms (F0 m pc ls st0) rest (va_Qv post B (va_A W0 H.size) a) (va_A W0 H.size))
    (kk : ∀ (u : S) (H1 : Heap) (locs1 : List Loc), post u → va_P D vwCl (T ++ W1 u) H1 → va_D A0 (T ++ W1 u) → va_S A0 H0 H1 locs1 → W p l e R s m args below meth c H1 locs1 (cells + mc) (slots + ms) Q (F0 m (pc + 3) ls rest)) : W p l e R s m args below meth c H locs cells slots Q (F0 m pc ls st0) := by
  have hFc := kfree (sfD hD) hS hA
  refine va_callv hr hS (fun q _ h => hFc q h) hFc (fun u t H1 locs1 ht hvm hx hB9 hz hk hS1 => ?_)
  have hB1 := hB u t hB9
  rw [ht] at hB1
  exact kk u H1 locs1 hx (jnP (kpP hP hD hk) hB1) (kfull hD (by rw [List.map_append, List.map_append, hF])) hS1
theorem kPreVXW {A1 : Nat → Prop} {ws : va_W} {As : List Value} {C : String} {b : Nat} (hK : va_K D vwCl tys s) (hN : kN s) (hX : kX A1 s s.heap) (hP : va_P D vwCl ws H) (hD : va_D A0 ws) (hS : va_S A1 s.heap H locs) (hA : ∀ q, va_A ws H.size q → A1 q)
    (hr : ∃ cell : Cell, H[b]? = some cell ∧ cell.vm.isStatics = false ∧ s.vm.findClass C = some cell.cls) : PreV s H C b (va_Pc (.ref b :: As) (kPreX D tys ws H.size)) As :=
  ⟨fun a U g mk q => by obtain ⟨q0, ⟨q1, q2, q3, q4, q5⟩, q6⟩ := q; exact ⟨q0, ⟨q1, q2, va_K.moved (u := U) (U := U.calling g mk a) (Vm.Alike.refl U.vm) q3, q4, kN.blind (u := U) (U := U.calling g mk a) rfl q5⟩, kX.blind (U := U) (V := U.calling g mk a) rfl q6⟩, hr, fun U hU hW => ⟨rfl, ⟨by rw [hU], by rw [hU]; exact hP, va_K.moved hW.alike hK, hD.weaken (fun _ _ _ _ => trivial), hN.warm hW⟩, by rw [hU]; exact hX.call hS hA hW⟩⟩
def kPreH (D : va_G) (tys : List (ClassId × FieldType)) (W0 : va_W) (sz : Nat) : State → Prop := fun U => kPre D tys W0 sz U ∧ kX (va_A W0 sz) U U.heap ∧ va_Nc nISE nIAE U
theorem kPreSHW {A1 : Nat → Prop} {ws : va_W} {As : List Value} (hK : va_K D vwCl tys s) (hN : kN s) (hX : kX A1 s s.heap) (hC : va_Nc nISE nIAE s) (hP : va_P D vwCl ws H) (hD : va_D A0 ws) (hS : va_S A1 s.heap H locs) (hA : ∀ q, va_A ws H.size q → A1 q) : PreS s H (va_Pc As (kPreH D tys ws H.size)) As :=
  ⟨fun a U g mk q => by obtain ⟨q0, ⟨q1, q2, q3, q4, q5⟩, q6, q7⟩ := q; exact ⟨q0, ⟨q1, q2, va_K.moved (u := U) (U := U.calling g mk a) (Vm.Alike.refl U.vm) q3, q4, kN.blind (u := U) (U := U.calling g mk a) rfl q5⟩, kX.blind (U := U) (V := U.calling g mk a) rfl q6, va_Nc.moved (u := U) (U := U.calling g mk a) (Vm.Alike.refl U.vm) q7⟩, fun U hU hW => ⟨rfl, ⟨by rw [hU], by rw [hU]; exact hP, va_K.moved hW.alike hK, hD.weaken (fun _ _ _ _ => trivial), hN.warm hW⟩, by rw [hU]; exact hX.call hS hA hW, va_Nc.moved hW.alike hC⟩⟩
theorem kCallXP_v (hP : va_P D vwCl (W0 ++ T) H) (hD : va_D A0 (W0 ++ T)) (hS : va_S A0 s.heap H locs) (hA : ∀ q, s.heap.size ≤ q → A0 q)
    (hr : vx_Run p l e R s m args below meth c H locs cells slots 1 6 (F0 m pc ls st0) rest (va_Qv (fun (_ : Unit) => False) (fun _ _ => True) (va_A W0 H.size) a) (vx_X (fun (_ : Unit) => True) (kBX D W0 E) (va_A W0 H.size)) (va_A W0 H.size))
    (kx : ∀ (ce : Cell) (q9 : Addr) (H1 : Heap) (locs1 : List Loc), va_P D vwCl (W0 ++ T) H1 → va_D A0 (W0 ++ T) → va_S A0 s.heap H1 locs1 → H1[q9]? = some ce → ce.vm = .none → s.vm.findClass E = some ce.cls → vx_W p l e R s m args below meth c H1 locs1 (cells + 1) (slots + 6) Q (F0 m pc ls rest) q9) : W p l e R s m args below meth c H locs cells slots Q (F0 m pc ls st0) := by
  have hFc := kfree (pfD hD) hS hA
  refine vx_callv hr hS (fun q _ h => hFc q h) hFc (fun q _ h => hFc q h) (fun E' ce q9 u t H1 locs1 ht hvm hp hB hz hk hS1 hce hcv hcl => ?_) (fun u t H1 locs1 ht hvm hp => False.elim hp)
  obtain ⟨rfl, hB⟩ : E' = E ∧ va_P D vwCl W0 t.heap := hB
  rw [ht] at hB
  exact kx ce q9 H1 locs1 (jnP hB (kpS hP hD hk)) hD hS1 hce hcv hcl
theorem kCallXP_i (hP : va_P D vwCl (W0 ++ T) H) (hD : va_D A0 (W0 ++ T)) (hS : va_S A0 s.heap H locs) (hA : ∀ q, s.heap.size ≤ q → A0 q)
    (hr : vx_Run p l e R s m args below meth c H locs cells slots 1 6 (F0 m pc ls st0) rest (va_Qi (fun (_ : Int32) (_ : Unit) => False) (fun _ _ => True) (va_A W0 H.size) a) (vx_X (fun (_ : Unit) => True) (kBX D W0 E) (va_A W0 H.size)) (va_A W0 H.size))
    (kx : ∀ (ce : Cell) (q9 : Addr) (H1 : Heap) (locs1 : List Loc), va_P D vwCl (W0 ++ T) H1 → va_D A0 (W0 ++ T) → va_S A0 s.heap H1 locs1 → H1[q9]? = some ce → ce.vm = .none → s.vm.findClass E = some ce.cls → vx_W p l e R s m args below meth c H1 locs1 (cells + 1) (slots + 6) Q (F0 m pc ls rest) q9) : W p l e R s m args below meth c H locs cells slots Q (F0 m pc ls st0) := by
  have hFc := kfree (pfD hD) hS hA
  refine vx_calli hr hS (fun q _ h => hFc q h) hFc (fun q _ h => hFc q h) (fun E' ce q9 u t H1 locs1 ht hvm hp hB hz hk hS1 hce hcv hcl => ?_) (fun r u t H1 locs1 ht hvm hp => False.elim hp)
  obtain ⟨rfl, hB⟩ : E' = E ∧ va_P D vwCl W0 t.heap := hB
  rw [ht] at hB
  exact kx ce q9 H1 locs1 (jnP hB (kpS hP hD hk)) hD hS1 hce hcv hcl
theorem kRetH_i {S : Type} {W1 : S → va_W} (u : S) {sz mc ms : Nat} {v r : Int32} (hx : p.tables.exec = Jvm.exec) (hb : c.code = cc) (hr : meth.sig.returnType = some .int) (hlocks : meth.locks = false) (hP : va_P D vwCl (W1 u) H) (hS : va_S (va_A W0 sz) s.heap H locs) (hdg : decode cc pc = .ok (.ireturn, 1)) (he : v = r) :
    W p l e R s m args below meth c H locs mc ms (MQ below (va_Qi (fun (x : Int32) (_ : S) => x = r) (kBE D W1) (va_A W0 sz)) args s mc ms (va_A W0 sz)) (F0 m pc ls [.int v]) := by
  subst he
  exact W.iret (v := v) hx hb hr (fun t ht hW => ⟨⟨v, u, rfl, rfl, by show va_P D vwCl (W1 u) t.heap; rw [ht]; exact hP⟩, hS.F ht⟩) hS.2.2 hdg hlocks
end KL1
/-- a helper's contract: its answer r, the cells behind W1 u -/
abbrev kMH {S : Type} (l : Launch) (y : MethodName) (ws : List Cond) (rm : Room) (D : va_G) (tys : List (ClassId × FieldType)) (av : List Value) (W0 : va_W) (W1 : S → va_W) (mc ms sz : Nat) (r : Int32) : Prop :=
  Met l y ws rm (va_Pc av (kPreH D tys W0 sz)) (va_Qi (fun (x : Int32) (_ : S) => x = r) (kBE D W1) (va_A W0 sz)) mc ms (va_A W0 sz)
theorem kEnterH {l : Launch} {y : MethodName} {ws ws' : List Cond} {rm : Room} {D : va_G} {tys : List (ClassId × FieldType)} {av : List Value} {W0 : va_W} {sz : Nat} {Qc : Array Value → State → Outcome → State → Prop} {mc ms : Nat} {cc : ByteArray} {maxL : Nat} {ret : Option FieldType} {hh : List (Nat × Nat × Nat × Nat)}
    (hy : plainName y.cls = true) (hw : ws = Cond.codeWith y cc maxL ret hh :: ws') (hln : (lg_sl av).length ≤ maxL)
    (body : ∀ (p : Program) (e : Env) (s : State) (m : MethodId) (below : List Frame) (meth : Method) (c : Code) (args : Array Value), p.tables.exec = Jvm.exec → c.code = cc → meth.sig.returnType = ret → c.maxLocals = maxL → (∀ w ∈ ws, w.before args s = true) → s.vm.findClass y.cls = some m.cls → meth.locks = false → c.exceptionTable.toList = tableOf hh → va_K D vwCl tys s → kN s →
      ∀ A : Nat → Prop, va_A W0 sz = A → ∀ Q : State → Prop, MQ below Qc args s mc ms (va_A W0 sz) = Q → va_P D vwCl W0 s.heap → va_D A W0 → s.heap.size = sz → va_S A s.heap s.heap [] → (∀ q : Nat, s.heap.size ≤ q → A q) → kX A s s.heap → va_Nc nISE nIAE s → ∀ ls : Array Slot, lv_has ls maxL (lv_args 0 av) →
      W p l e rm s m args below meth c s.heap [] 0 0 Q (F0 m 0 ls [])) :
    Met l y ws rm (va_Pc av (kPreH D tys W0 sz)) Qc mc ms (va_A W0 sz) := by
  refine MetFree.of_bodyS (code := cc) (maxLocals := maxL) (ret := ret) hy ?_ ?_
  · intro args s m h hn
    obtain ⟨m9, meth, c, hn9, h1, h2, h3, h4, -, h5, h6, -⟩ := Cond.codeWith_spec (atoms_spec (ws := ws) h _ (by rw [hw]; exact List.mem_cons_self))
    cases hn.symm.trans hn9
    exact ⟨meth, c, h1, h2, h3, h4, h5, h6⟩
  · intro p e s m args below meth c s₁ B hml hv _
    have hh0 : s₁.heap = s.heap := by rw [B.state]; rfl
    obtain ⟨rfl, ⟨hsz, hP, hK, hD0, hN⟩, hX, hC⟩ := hv
    have hts := atoms_spec (ws := ws) B.pre
    have hown : s.vm.findClass y.cls = some m.cls := findClass_of_methodNamed B.named
    have htab := vx_table (x := y) B (hts _ (by rw [hw]; exact List.mem_cons_self))
    have hl := lv_entry av (n := maxL) hln
    have h1 := body p e s m below meth c _ B.exec B.bytes B.returns hml hts hown B.notSynchronized htab hK hN _ rfl _ rfl hP (hD0.self (sz := sz)) hsz va_S.rf (fun q h => Or.inr (by rw [← hsz]; exact h)) hX hC _ hl
    rw [← lg_entry_eq] at h1
    obtain ⟨t, a1, o, b1, b2, b3⟩ := h1 s₁ hh0 (Stand.of_body B)
    exact ⟨t, o, a1, b1, b2, ⟨b3.1, b3.2⟩⟩
theorem k_lastS {p : Program} {l : Launch} {e : Env} {R : Room} {s : State} {m : MethodId} {args : Array Value} {below : List Frame} {meth : Method} {c : Code} {H : Heap} {locs : List Loc} {cells slots : Nat} {Q : State → Prop} {pc : Nat} {ls : Array Slot} {rest : List Value} {A0 : Nat → Prop} {H0 : Heap} {D : va_G} {T : va_W} {cc : ByteArray} {tys : List (ClassId × FieldType)} {o : Nat} {cJ : ClassId} {g : Nat → Int64} {x : Int64}
    (hx : p.tables.exec = Jvm.exec) (hb : c.code = cc) (hK : va_K D vwCl tys s) (t0 : Nat) (ht : tys[t0]? = some (cJ, .long)) (hP : va_P D vwCl (T ++ [(o, .inl (cJ, 1, .inr (.inl g)))]) H) (hD : va_D A0 (T ++ [(o, .inl (cJ, 1, .inr (.inl g)))])) (hS : va_S A0 H0 H locs) (hdg : decode cc pc = .ok (.lastore, 1))
    (kk : ∀ (H1 : Heap) (locs1 : List Loc), va_P D vwCl (T ++ [(o, .inl (cJ, 1, .inr (.inl (vp_updL g 0 x))))]) H1 → va_D A0 (T ++ [(o, .inl (cJ, 1, .inr (.inl (vp_updL g 0 x))))]) → va_S A0 H0 H1 locs1 → W p l e R s m args below meth c H1 locs1 cells slots Q (F0 m (pc + 1) ls rest)) : W p l e R s m args below meth c H locs cells slots Q (F0 m pc ls (.long x :: .int (nI 0) :: .ref o :: rest)) := by
  refine va_last hx hb hK hP hD hS T.length t0 (sfG (k := 0) rfl) ht (vp_in_nI (by decide) (by decide)) hdg (fun H1 locs1 h1 h2 h3 => ?_)
  rw [nI_clamp (by decide)] at h1 h2
  rw [List.set_append_right _ _ (Nat.le_refl _), Nat.sub_self] at h1 h2
  exact kk H1 locs1 h1 h2 h3
