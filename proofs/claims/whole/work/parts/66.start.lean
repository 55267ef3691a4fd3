/-! ===== the law from its entry ===== -/
theorem kArr {args : Array Value} {s : State} {ty : FieldType} (h : (Cond.arrayClass ty).before args s = true) : ∃ cA, ArrOfT s cA ty ∧ s.vm.findClass ("[" ++ ty.toString) = some cA := by
  obtain ⟨cA, kA, comp, h1, h2, h3⟩ := Cond.arrayClass_spec h
  exact ⟨cA, fun n z => ⟨(fun k h => by cases h), kA, h2, comp, h3⟩, h1⟩
theorem kArrO {args : Array Value} {s : State} (h : (Cond.arrayOver (.array .int)).before args s = true) : ∃ cA, ArrOfT s cA (.array .int) ∧ s.vm.findClass ("[" ++ (FieldType.array .int).toString) = some cA := by
  obtain ⟨comp, c, k, -, -, h3, h4, h5⟩ := kAO_spec h
  exact ⟨c, fun n z => ⟨(fun k h => by cases h), k, h3, comp, h4⟩, h5⟩
theorem kStr {args : Array Value} {s : State} {k : Nat} {tx : String} {cur : ClassId} (hc : s.vm.findClass RX2 = some cur) (h : (Cond.stringRef RX2 k tx).before args s = true) : ∃ sa, vk_R RX2 k tx sa s := by
  obtain ⟨_, _, _, a, -, -, -, -, -, hev⟩ := Cond.stringRef_spec hc h
  exact ⟨a, vk_R.of (A := args) h hev⟩
theorem in_xB_iae : ∀ w ∈ xB_iae, w ∈ lw_tbl := inTbl [168, 170, 172, 166] (by decide +kernel)
theorem in_xB_ise : ∀ w ∈ xB_ise, w ∈ lw_tbl := inTbl [168, 170, 172, 279] (by decide +kernel)
theorem kXw.of {B : List Cond} (hB : B.all (fun w => w.onTables && w.warmB w.codeNames) = true) {args : Array Value} {s : State} (h : ∀ w ∈ B, w.before args s = true) : kXw B s := fun w hw => by
  have h1 := List.all_eq_true.mp hB w hw
  rw [Bool.and_eq_true] at h1
  exact va_tabs h1.1 rfl (h w hw)
theorem LI_0 : LI (((mFl 6 (fun _ => nI 2000) (fun _ => nI 0)), (fun _ => nI 0), (fun _ => nI 0), (fun _ => nI 0), (fun _ => nI 0), (fun _ _ => nI 0), 0) : HS) ((fun _ => 0, (mFl 6 (fun _ => nI 2000) (fun _ => nI 0)), (fun _ => nI 0), (fun _ => nI 0), (fun _ => nI 0), (fun _ => nI 0), (fun _ => nI 0)) : MS) 0 (fun _ => nI 0) (fun _ => nI 0) (fun _ => nI 0) (mFl 6 (fun _ => nI 2200) (fun _ => nI 0)) (iEm 6) (iEf 6) (nI 20) (nI 10) (nI 2500) 2 := by
  have e0 : (nI 0).toInt = 0 := toI 0 (by decide)
  have e1 : ∀ z, z < 6 → (mFl 6 (fun _ => nI 2000) (fun _ => nI 0) z).toInt = 2000 := fun z hz => by rw [mFl_lt _ _ hz]; exact toI 2000 (by decide)
  have e2 : ∀ z, z < 6 → (mFl 6 (fun _ => nI 2200) (fun _ => nI 0) z).toInt = 2200 := fun z hz => by rw [mFl_lt _ _ hz]; exact toI 2200 (by decide)
  have key : ∀ (f : Fin 8) (z : Fin 6), 0 ≤ (iEf 6 f.val z.val).toInt ∧ (iEf 6 f.val z.val).toInt ≤ 100 ∧ iEm 6 (6 * f.val + z.val) = iEf 6 f.val z.val := by decide +kernel
  refine ⟨⟨⟨fun z hz => ?_, fun z hz => rfl, fun f hf => rfl, fun f k hf hk => rfl, rfl, fun f k hf hk h => rfl, fun z hz => ?_, fun z hz => ?_, fun f hf => Or.inl rfl, fun f k hf hk => ?_⟩, fun z hz => rfl, fun f hf => rfl⟩, ⟨fun z hz => ?_, fun z hz => ?_, fun f z hf hz => ?_, ?_, ?_, ?_, by decide, fun f z hf hz => ?_⟩, rfl, by decide, fun j hj => rfl⟩
  · show mFl 6 (fun _ => nI 2000) (fun _ => nI 0) (6 * 0 + z) = mFl 6 (fun _ => nI 2000) (fun _ => nI 0) z
    rw [show 6 * 0 + z = z from by omega]
  · show -50200 ≤ (mFl 6 (fun _ => nI 2000) (fun _ => nI 0) z).toInt ∧ (mFl 6 (fun _ => nI 2000) (fun _ => nI 0) z).toInt ≤ 17800
    rw [e1 z hz]; omega
  · show -20000 ≤ (nI 0).toInt ∧ (nI 0).toInt ≤ 20000
    rw [e0]; omega
  · show 0 ≤ (nI 0).toInt ∧ (nI 0).toInt ≤ 100
    rw [e0]; omega
  · show 0 ≤ (nI 0).toInt ∧ (nI 0).toInt ≤ 200
    rw [e0]; omega
  · rw [e2 z hz]; omega
  · have := key ⟨f, hf⟩ ⟨z, hz⟩
    exact ⟨this.1, this.2.1⟩
  · rw [toI 20 (by decide)]; omega
  · rw [toI 10 (by decide)]; omega
  · rw [toI 2500 (by decide)]; omega
  · exact (key ⟨f, hf⟩ ⟨z, hz⟩).2.2
-- ===== YOUR PART BEGINS =====
set_option maxHeartbeats 4000000 in
set_option maxRecDepth 100000 in
theorem whole_start {p : Program} {e : Env} {s : State} {m : MethodId} {below : List Frame} {meth : Method} {c : Code} (l : Launch) (hflags : l.flags = flags0) {b L : Nat} {xs : Nat → Int32} (hL : L ≤ 2048) (C0 : lw_At p s m meth c b L xs) : W p l e room_1 s m #[Value.ref b] below meth c s.heap [] 0 0 (lw_Z below #[Value.ref b] s) (entryFrame m ([Value.ref b] : List Value).toArray 7) := by
  obtain ⟨hx, hb, hr, hml, hown, hts0, hsc, hbl, hlocks, hgv⟩ := id C0
  have hst : l.stackTraces = false := by
    unfold Launch.stackTraces
    rw [hflags]
    decide +kernel
  have hfl := flat_of_before _ hgv
  have hts : ∀ w ∈ wsL_law, w.before #[Value.ref b] s = true := fun w h => hts0 w (wsL_law_in w h)
  have hi_X0 : ∀ w ∈ u_ws RX0 TX0 7, w ∈ wsL_law := by decide +kernel
  have hi_X1 : ∀ w ∈ u_ws RX1 TX1 8, w ∈ wsL_law := by decide +kernel
  have hi_X2 : ∀ w ∈ u_ws RX2 TX2 5, w ∈ wsL_law := by decide +kernel
  have hi_X3 : ∀ w ∈ u_ws RX3 TX3 17, w ∈ wsL_law := by decide +kernel
  obtain ⟨c0, i0, k0⟩ := u_known (C := RX0) (T := TX0) (N := 7) (n := 7) hts hi_X0 (hts (.instantiable RX0 7) (by decide +kernel))
  obtain ⟨c1, i1, k1⟩ := u_known (C := RX1) (T := TX1) (N := 8) (n := 8) hts hi_X1 (hts (.instantiable RX1 8) (by decide +kernel))
  obtain ⟨c2, i2, k2⟩ := u_known (C := RX2) (T := TX2) (N := 5) (n := 5) hts hi_X2 (hts (.instantiable RX2 5) (by decide +kernel))
  obtain ⟨c3, i3, k3⟩ := u_known (C := RX3) (T := TX3) (N := 17) (n := 17) hts hi_X3 (hts (.instantiable RX3 17) (by decide +kernel))
  obtain ⟨D, hKc⟩ : ∃ D : va_G, ∀ (k : Nat) (q : vw_C), vwCl[k]? = some q → u_Kn s q.1 q.2.1 q.2.2 (D.1 k) (D.2 k) := by
    refine ⟨(fun k => if k = 0 then c0 else if k = 1 then c1 else if k = 2 then c2 else c3, fun k => if k = 0 then i0 else if k = 1 then i1 else if k = 2 then i2 else i3), ?_⟩
    intro k q hq
    match k, hq with
    | 0, hq => cases hq; exact k0
    | 1, hq => cases hq; exact k1
    | 2, hq => cases hq; exact k2
    | 3, hq => cases hq; exact k3
    | k + 4, hq => simp [vwCl] at hq
  obtain ⟨cI, aI1, aI2⟩ := kArr (hts0 (.arrayClass .int) (by decide +kernel))
  obtain ⟨cZ, aZ1, aZ2⟩ := kArr (hts0 (.arrayClass .boolean) (by decide +kernel))
  obtain ⟨cJ, aJ1, aJ2⟩ := kArr (hts0 (.arrayClass .long) (by decide +kernel))
  have hO0 := hts0 (.arrayOver (.array .int)) (by decide +kernel)
  obtain ⟨cO, aO1, aO2⟩ := kArrO hO0
  have hO : va_AOA .int s := hO0
  have hK : va_K D vwCl (kT cI cZ cO cJ) s := by
    refine ⟨hKc, fun k q hq => ?_⟩
    match k, hq with
    | 0, hq => cases hq; exact ⟨aI1, aI2⟩
    | 1, hq => cases hq; exact ⟨aZ1, aZ2⟩
    | 2, hq => cases hq; exact ⟨aO1, aO2⟩
    | 3, hq => cases hq; exact ⟨aJ1, aJ2⟩
    | k + 4, hq => simp [kT] at hq
  have hN : kN s := va_Nw.of (by decide) (hts0 (.methodLinkNest RX0 72 yX2_holdWithin RX2) (by decide +kernel))
  obtain ⟨A, hA9⟩ : ∃ A : Nat → Prop, A = fun q => s.heap.size ≤ q := ⟨_, rfl⟩
  have hA : ∀ q : Nat, s.heap.size ≤ q → A q := fun q h => by rw [hA9]; exact h
  have hAr : ∀ q : Nat, A q → s.heap.size ≤ q := fun q h => by rw [hA9] at h; exact h
  have hAn : ∀ q : Nat, q < s.heap.size → ¬ A q := fun q h h2 => absurd (hAr q h2) (Nat.not_le.mpr h)
  have hbA : ¬ A b := hAn b hbl
  have hc2 : s.vm.findClass RX2 = some c2 := k2.2.1
  have hX : kX A s s.heap :=
    ⟨vx_Zqof (hts0 (.laysStatic Bundle.tN "UNASSIGNED_STACK" Bundle.steD) (by decide +kernel)) (hts0 (.initialized Bundle.tN) (by decide +kernel)) (hfl (.isRef (.static Bundle.tN "UNASSIGNED_STACK" Bundle.steD)) (by decide +kernel)) hAn,
     vx_Zqof (hts0 (.laysStatic Bundle.tN "SUPPRESSED_SENTINEL" Bundle.listD) (by decide +kernel)) (hts0 (.initialized Bundle.tN) (by decide +kernel)) (hfl (.isRef (.static Bundle.tN "SUPPRESSED_SENTINEL" Bundle.listD)) (by decide +kernel)) hAn,
     kStr hc2 (hts0 (.stringRef RX2 139 "an argument is out of range") (by decide +kernel)), kStr hc2 (hts0 (.stringRef RX2 79 "the fan has failed already") (by decide +kernel)), kStr hc2 (hts0 (.stringRef RX2 91 "the fan has not failed") (by decide +kernel)), kStr hc2 (hts0 (.stringRef RX2 101 "the clock would be above its greatest value") (by decide +kernel)),
     kXw.of xB_iae_ok (fun w h => hts0 w (in_xB_iae w h)), kXw.of xB_ise_ok (fun w h => hts0 w (in_xB_ise w h))⟩
  have hC : va_Nc nISE nIAE s := va_Nc.of (hfl (.not (.castable nISE nIAE)) (by decide +kernel))
  have hLC : LC p l s m #[Value.ref b] c D cI cZ cO cJ b L xs A := ⟨hx, hb, hml, hts, hown, hK, hN, hX, hC, hA, hsc, hbl, hbA, hst, hL⟩
  have hl := lv_entry ([.ref b]) (n := 7) (Nat.le_of_ble_eq_true rfl)
  rw [lg_entry_eq]
  generalize (lg_sl ([.ref b]) ++ List.replicate (7 - (lg_sl ([.ref b])).length) Slot.unset).toArray = ls at hl ⊢
  have hl : lv_has ls 7 [(0, .ref b)] := hl
  have hS : va_S A s.heap s.heap [] := va_S.rf
  have hP : va_P D vwCl [] s.heap := fun k q h => by simp at h
  have hD : va_D A [] := ⟨fun i j p q h => by simp at h, fun k q h => by simp at h⟩
  refine va_new (ci := 2) (fs := [.null, .null, .null, .null, .int 0]) (C := RX2) (T := TX2) (N := 5) hx hb hts hi_X2 tyX2 tyX2_ok hown (hts (.classLink RL 8 RX2) (by decide +kernel)) (hts (.instantiable RX2 5) (by decide +kernel)) (hts (.initialized RX2) (by decide +kernel)) hK hP hD hS hA rfl (fun j hj => by rcases (show j = 0 ∨ j = 1 ∨ j = 2 ∨ j = 3 ∨ j = 4 by omega) with rfl | rfl | rfl | rfl | rfl <;> rfl) (Nat.le_of_ble_eq_true rfl) (Nat.le_of_ble_eq_true rfl) dL_law_0 (fun x0 H hP hD hS => ?_)
  refine W.widen (k := 1) (n := 5) (by decide) (by decide) ?_
  have hP : va_P D vwCl [(x0, .inr (2, [.null, .null, .null, .null, .int 0]))] H := hP
  have hD : va_D A [(x0, .inr (2, [.null, .null, .null, .null, .int 0]))] := hD
  refine lv_dup hx hb dL_law_3 rfl ?_
  refine kCallC (W0 := [(x0, .inr (2, [.null, .null, .null, .null, .int 0]))]) (wr := []) hP hD hS hA [0] [] rfl rfl (by decide) (by decide) (va_runI (As := []) (rest := [.ref x0]) ⟨hx, hb, hml, hown, hts⟩ (c_X2_init l D cI cZ cO cJ x0 H.size) (cwI (rm := rmX2_init) 0 hts gL_law_X2_init rfl rfl rfl (hts (.initialized RX2) (by decide +kernel)) (hts (.methodLink RL 71 yX2_init) (by decide +kernel)) (hts (.instanceMethod yX2_init) (by decide +kernel)) rfl (by decide +kernel) ⟨Nat.le_of_ble_eq_true rfl, Nat.le_of_ble_eq_true rfl⟩) (kPreIC hK hN hO hP hD [0] (by decide) rfl) rfl rfl hl.1 rfl (lv_room (Nat.le_of_ble_eq_true rfl)) dL_law_4 ⟨Nat.le_of_ble_eq_true rfl, Nat.le_of_ble_eq_true rfl⟩) (fun u H locs hu hP hD hS => ?_)
  refine W.widen (k := 46) (n := 331) (by decide) (by decide) ?_
  rw [List.nil_append] at hP hD
  obtain ⟨x, hx9⟩ : ∃ x : Nat → Nat, x = (fun i => u (4 * i)) := ⟨_, rfl⟩
  obtain ⟨a, ha9⟩ : ∃ x : Nat → Nat, x = (fun i => u (4 * i + 1)) := ⟨_, rfl⟩
  obtain ⟨t, ht9⟩ : ∃ x : Nat → Nat, x = (fun i => u (4 * i + 2)) := ⟨_, rfl⟩
  obtain ⟨bb, hb9⟩ : ∃ x : Nat → Nat, x = (fun i => u (4 * i + 3)) := ⟨_, rfl⟩
  rw [← hx9, ← ha9, ← ht9, ← hb9] at hP hD
  have hx0 : x 0 = x0 := by rw [hx9]; exact hu
  rw [← hx0]
  refine lv_astore_n (lv' := [(1, .ref (x 0)), (0, .ref b)]) hx hb dL_law_7 rfl hl (by decide) rfl (fun ls hl => ?_)
  refine va_new (ci := 3) (fs := [.null, .null, .null, .int 0, .int 0, .int 0, .int 0, .int 0, .null, .null, .null, .null, .null, .null, .null, .null, .int 0]) (C := RX3) (T := TX3) (N := 17) hx hb hts hi_X3 tyX3 tyX3_ok hown (hts (.classLink RL 72 RX3) (by decide +kernel)) (hts (.instantiable RX3 17) (by decide +kernel)) (hts (.initialized RX3) (by decide +kernel)) hK hP hD hS hA rfl (fun j hj => by rcases (show j = 0 ∨ j = 1 ∨ j = 2 ∨ j = 3 ∨ j = 4 ∨ j = 5 ∨ j = 6 ∨ j = 7 ∨ j = 8 ∨ j = 9 ∨ j = 10 ∨ j = 11 ∨ j = 12 ∨ j = 13 ∨ j = 14 ∨ j = 15 ∨ j = 16 by omega) with rfl | rfl | rfl | rfl | rfl | rfl | rfl | rfl | rfl | rfl | rfl | rfl | rfl | rfl | rfl | rfl | rfl <;> rfl) (Nat.le_of_ble_eq_true rfl) (Nat.le_of_ble_eq_true rfl) dL_law_8 (fun y0 H hP hD hS => ?_)
  refine W.widen (k := 47) (n := 348) (by decide) (by decide) ?_
  have hP : va_P D vwCl ((wC cI cZ cO x a t bb 0 (fun _ => nI 0) (mFl 6 (fun _ => nI 2000) (fun _ => nI 0)) (fun _ => nI 0) (fun _ => nI 0) (fun _ => nI 0) (fun _ => nI 0) (fun _ _ => nI 0) 0 (mFl 6 (fun _ => nI 2000) (fun _ => nI 0)) (fun _ => nI 0) (fun _ => nI 0) (fun _ => nI 0) (fun _ => nI 0) (fun _ _ => nI 0) 0 (fun _ => nI 0) (mFl 6 (fun _ => nI 2200) (fun _ => nI 0)) (iEf 6) (nI 20) (nI 10) (nI 2500) (nI 2700) 2) ++ [(y0, .inr (3, [.null, .null, .null, .int 0, .int 0, .int 0, .int 0, .int 0, .null, .null, .null, .null, .null, .null, .null, .null, .int 0]))]) H := hP
  have hD : va_D A ((wC cI cZ cO x a t bb 0 (fun _ => nI 0) (mFl 6 (fun _ => nI 2000) (fun _ => nI 0)) (fun _ => nI 0) (fun _ => nI 0) (fun _ => nI 0) (fun _ => nI 0) (fun _ _ => nI 0) 0 (mFl 6 (fun _ => nI 2000) (fun _ => nI 0)) (fun _ => nI 0) (fun _ => nI 0) (fun _ => nI 0) (fun _ => nI 0) (fun _ _ => nI 0) 0 (fun _ => nI 0) (mFl 6 (fun _ => nI 2200) (fun _ => nI 0)) (iEf 6) (nI 20) (nI 10) (nI 2500) (nI 2700) 2) ++ [(y0, .inr (3, [.null, .null, .null, .int 0, .int 0, .int 0, .int 0, .int 0, .null, .null, .null, .null, .null, .null, .null, .null, .int 0]))]) := hD
  refine lv_dup hx hb dL_law_11 rfl ?_
  refine kCallC (W0 := [(y0, .inr (3, [.null, .null, .null, .int 0, .int 0, .int 0, .int 0, .int 0, .null, .null, .null, .null, .null, .null, .null, .null, .int 0]))]) (wr := wC cI cZ cO x a t bb 0 (fun _ => nI 0) (mFl 6 (fun _ => nI 2000) (fun _ => nI 0)) (fun _ => nI 0) (fun _ => nI 0) (fun _ => nI 0) (fun _ => nI 0) (fun _ _ => nI 0) 0 (mFl 6 (fun _ => nI 2000) (fun _ => nI 0)) (fun _ => nI 0) (fun _ => nI 0) (fun _ => nI 0) (fun _ => nI 0) (fun _ _ => nI 0) 0 (fun _ => nI 0) (mFl 6 (fun _ => nI 2200) (fun _ => nI 0)) (iEf 6) (nI 20) (nI 10) (nI 2500) (nI 2700) 2) hP hD hS hA [46] [0, 1, 2, 3, 4, 5, 6, 7, 8, 9, 10, 11, 12, 13, 14, 15, 16, 17, 18, 19, 20, 21, 22, 23, 24, 25, 26, 27, 28, 29, 30, 31, 32, 33, 34, 35, 36, 37, 38, 39, 40, 41, 42, 43, 44, 45] rfl rfl (by decide) (by decide) (va_runI (As := []) (rest := [.ref y0]) ⟨hx, hb, hml, hown, hts⟩ (c_X3_init l D cI cZ cO cJ y0 H.size) (cwI (rm := rmX3_init) 0 hts gL_law_X3_init rfl rfl rfl (hts (.initialized RX3) (by decide +kernel)) (hts (.methodLink RL 74 yX3_init) (by decide +kernel)) (hts (.instanceMethod yX3_init) (by decide +kernel)) rfl (by decide +kernel) ⟨Nat.le_of_ble_eq_true rfl, Nat.le_of_ble_eq_true rfl⟩) (kPreIC hK hN hO hP hD [46] (by decide) rfl) rfl rfl hl.1 rfl (lv_room (Nat.le_of_ble_eq_true rfl)) dL_law_12 ⟨Nat.le_of_ble_eq_true rfl, Nat.le_of_ble_eq_true rfl⟩) (fun y H locs hu2 hP hD hS => ?_)
  refine W.widen (k := 58) (n := 628) (by decide) (by decide) ?_
  rw [← hu2]
  refine lv_astore_n (lv' := [(2, .ref (y 0)), (1, .ref (x 0)), (0, .ref b)]) hx hb dL_law_15 rfl hl (by decide) rfl (fun ls hl => ?_)
  refine lv_iconst (v := nI 1) hx hb dL_law_16 (by decide +kernel) ?_
  refine k_newa hx hb (atype := .long) (hts (.arrayClass .long) (by decide +kernel)) .long rfl rfl hK 3 rfl hP hD hS hA 1 (by decide) (a0 := (1, .inr (.inl (fun _ => 0)))) (fun _ => rfl) (by decide) (Nat.le_of_ble_eq_true rfl) (Nat.le_of_ble_eq_true rfl) dL_law_17 (fun o H hP hD hS => ?_)
  refine W.widen (k := 59) (n := 629) (by decide) (by decide) ?_
  have hP : va_P D vwCl (((wC cI cZ cO x a t bb 0 (fun _ => nI 0) (mFl 6 (fun _ => nI 2000) (fun _ => nI 0)) (fun _ => nI 0) (fun _ => nI 0) (fun _ => nI 0) (fun _ => nI 0) (fun _ _ => nI 0) 0 (mFl 6 (fun _ => nI 2000) (fun _ => nI 0)) (fun _ => nI 0) (fun _ => nI 0) (fun _ => nI 0) (fun _ => nI 0) (fun _ _ => nI 0) 0 (fun _ => nI 0) (mFl 6 (fun _ => nI 2200) (fun _ => nI 0)) (iEf 6) (nI 20) (nI 10) (nI 2500) (nI 2700) 2) ++ [(o, .inl (cJ, 1, .inr (.inl (fun _ => 0))))]) ++ (wM cI cZ y (fun _ => nI 0) (mFl 6 (fun _ => nI 2200) (fun _ => nI 0)) (iEm 6) (nI 20) (nI 10) (nI 2500) (nI 2700) 2 (fun _ => 0) (mFl 6 (fun _ => nI 2000) (fun _ => nI 0)) (fun _ => nI 0) (fun _ => nI 0) (fun _ => nI 0) (fun _ => nI 0) (fun _ => nI 0) (fun _ => nI 0) (nI 0))) H := hP.sub [0, 1, 2, 3, 4, 5, 6, 7, 8, 9, 10, 11, 12, 13, 14, 15, 16, 17, 18, 19, 20, 21, 22, 23, 24, 25, 26, 27, 28, 29, 30, 31, 32, 33, 34, 35, 36, 37, 38, 39, 40, 41, 42, 43, 44, 45, 58, 46, 47, 48, 49, 50, 51, 52, 53, 54, 55, 56, 57] rfl
  have hD : va_D A (((wC cI cZ cO x a t bb 0 (fun _ => nI 0) (mFl 6 (fun _ => nI 2000) (fun _ => nI 0)) (fun _ => nI 0) (fun _ => nI 0) (fun _ => nI 0) (fun _ => nI 0) (fun _ _ => nI 0) 0 (mFl 6 (fun _ => nI 2000) (fun _ => nI 0)) (fun _ => nI 0) (fun _ => nI 0) (fun _ => nI 0) (fun _ => nI 0) (fun _ _ => nI 0) 0 (fun _ => nI 0) (mFl 6 (fun _ => nI 2200) (fun _ => nI 0)) (iEf 6) (nI 20) (nI 10) (nI 2500) (nI 2700) 2) ++ [(o, .inl (cJ, 1, .inr (.inl (fun _ => 0))))]) ++ (wM cI cZ y (fun _ => nI 0) (mFl 6 (fun _ => nI 2200) (fun _ => nI 0)) (iEm 6) (nI 20) (nI 10) (nI 2500) (nI 2700) 2 (fun _ => 0) (mFl 6 (fun _ => nI 2000) (fun _ => nI 0)) (fun _ => nI 0) (fun _ => nI 0) (fun _ => nI 0) (fun _ => nI 0) (fun _ => nI 0) (fun _ => nI 0) (nI 0))) := hD.sub [0, 1, 2, 3, 4, 5, 6, 7, 8, 9, 10, 11, 12, 13, 14, 15, 16, 17, 18, 19, 20, 21, 22, 23, 24, 25, 26, 27, 28, 29, 30, 31, 32, 33, 34, 35, 36, 37, 38, 39, 40, 41, 42, 43, 44, 45, 58, 46, 47, 48, 49, 50, 51, 52, 53, 54, 55, 56, 57] (by decide) rfl
  refine lv_astore_n (lv' := [(3, .ref o), (2, .ref (y 0)), (1, .ref (x 0)), (0, .ref b)]) hx hb dL_law_19 rfl hl (by decide) rfl (fun ls hl => ?_)
  refine lv_iconst (v := nI 0) hx hb dL_law_20 (by decide +kernel) ?_
  refine lv_istore (lv' := [(4, .int (nI 0)), (3, .ref o), (2, .ref (y 0)), (1, .ref (x 0)), (0, .ref b)]) hx hb dL_law_21 hl (by decide) rfl (fun ls hl => ?_)
  exact law_hd hLC hr hlocks hAr 513 0 59 629 (by decide) (by omega) (by decide) (by decide) (((mFl 6 (fun _ => nI 2000) (fun _ => nI 0)), (fun _ => nI 0), (fun _ => nI 0), (fun _ => nI 0), (fun _ => nI 0), (fun _ _ => nI 0), 0) : HS) (((mFl 6 (fun _ => nI 2000) (fun _ => nI 0)), (fun _ => nI 0), (fun _ => nI 0), (fun _ => nI 0), (fun _ => nI 0), (fun _ _ => nI 0), 0) : HS) ((fun _ => 0, (mFl 6 (fun _ => nI 2000) (fun _ => nI 0)), (fun _ => nI 0), (fun _ => nI 0), (fun _ => nI 0), (fun _ => nI 0), (fun _ => nI 0)) : MS) 0 (fun _ => nI 0) (fun _ => nI 0) (fun _ => nI 0) (mFl 6 (fun _ => nI 2200) (fun _ => nI 0)) (iEm 6) (iEf 6) (nI 20) (nI 10) (nI 2500) (nI 2700) 2 (fun _ => 0) (nI 0) LI_0 H locs hP hD hS ls (lv_sub hl [4, 3, 2, 1, 0] rfl)
-- ===== YOUR PART ENDS =====
