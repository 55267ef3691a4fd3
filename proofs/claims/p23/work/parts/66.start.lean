/-! ===== the law from its entry ===== -/
theorem kArr {args : Array Value} {s : State} {ty : FieldType} (h : (Cond.arrayClass ty).before args s = true) : ∃ cA, ArrOfT s cA ty ∧ s.vm.findClass ("[" ++ ty.toString) = some cA := by
  obtain ⟨cA, kA, comp, h1, h2, h3⟩ := Cond.arrayClass_spec h
  exact ⟨cA, fun n z => ⟨(fun k h => by cases h), kA, h2, comp, h3⟩, h1⟩
theorem kArrO {args : Array Value} {s : State} (h : (Cond.arrayOver (.array .int)).before args s = true) : ∃ cA, ArrOfT s cA (.array .int) ∧ s.vm.findClass ("[" ++ (FieldType.array .int).toString) = some cA := by
  obtain ⟨comp, c, k, -, -, h3, h4, h5⟩ := kAO_spec h
  exact ⟨c, fun n z => ⟨(fun k h => by cases h), k, h3, comp, h4⟩, h5⟩
theorem kStr {args : Array Value} {s : State} {k : Nat} {tx : String} {cur : ClassId} (hc : s.vm.findClass RX2 = some cur) (h : (Cond.stringRef RX2 k tx).before args s = true) : ∃ sa, vk_R RX2 k tx sa s := by
  obtain ⟨_, _, _, a, -, -, -, -, -, hev⟩ := Cond.stringRef_spec hc h
  exact ⟨a, vk_R.of (A := args) h hev⟩
theorem in_xB_iae : ∀ w ∈ xB_iae, w ∈ lw_tbl := inTbl [143, 145, 147, 141] (by decide +kernel)
theorem in_xB_ise : ∀ w ∈ xB_ise, w ∈ lw_tbl := inTbl [143, 145, 147, 249] (by decide +kernel)
theorem kXw.of {B : List Cond} (hB : B.all (fun w => w.onTables && w.warmB w.codeNames) = true) {args : Array Value} {s : State} (h : ∀ w ∈ B, w.before args s = true) : kXw B s := fun w hw => by
  have h1 := List.all_eq_true.mp hB w hw
  rw [Bool.and_eq_true] at h1
  exact va_tabs h1.1 rfl (h w hw)
def q00 : QS := (0, (fun _ => nI 0), ((mFl 6 (fun _ => nI 2000) (fun _ => nI 0)), (fun _ => nI 0), (fun _ => nI 0), (fun _ => nI 0), (fun _ => nI 0), (fun _ _ => nI 0), 0), (fun _ => nI 0), (mFl 6 (fun _ => nI 2200) (fun _ => nI 0)), iEf 6, nI 20, nI 10, nI 2500, nI 2700, 2)
def r00 : HS := ((mFl 6 (fun _ => nI 2000) (fun _ => nI 0)), (fun _ => nI 0), (fun _ => nI 0), (fun _ => nI 0), (fun _ => nI 0), (fun _ _ => nI 0), 0)
def e00 : Nat → Nat → Int32
  | 0 => fun _ => 0
  | n + 1 => upd (upd (upd (e00 n) (7 * n) (nI 60)) (36 + n) (nI 20)) (42 + n) (nI 20)
def z00 : Nat → Nat → Int32
  | 0 => fun _ => 0
  | n + 1 => upd (z00 n) (6 + n) (nI 2200)
def p00 : Nat → Int32 := upd (upd (upd (upd (upd (fun _ => 0) 0 (nI 20)) 1 (nI 10)) 2 (nI 2500)) 3 (nI 2700)) 4 (nI 2)
theorem PR_0 : PR p00 q00 0 := by
  refine ⟨rfl, rfl, rfl, rfl, rfl, nI_0.symm, by decide, fun f hf => ?_⟩
  show nI 0 = nI (0 / 2 ^ f % 2)
  rw [Nat.zero_div]
theorem ER_0 : ER (e00 6) q00 := fun f z hf hz => by
  have key : ∀ (f : Fin 8) (z : Fin 6), e00 6 (6 * f.val + z.val) = iEf 6 f.val z.val := by decide +kernel
  exact key ⟨f, hf⟩ ⟨z, hz⟩
theorem ZR_0 : ZR (z00 6) q00 := fun z hz => by
  have key : ∀ (z : Fin 6), z00 6 z.val = nI 0 ∧ z00 6 (6 + z.val) = mFl 6 (fun _ => nI 2200) (fun _ => nI 0) z.val := by decide +kernel
  exact key ⟨z, hz⟩
theorem QOK_0 : QOK q00 := by
  have e0 : (nI 0).toInt = 0 := toI 0 (by decide)
  have e1 : ∀ z, z < 6 → (mFl 6 (fun _ => nI 2000) (fun _ => nI 0) z).toInt = 2000 := fun z hz => by rw [mFl_lt _ _ hz]; exact toI 2000 (by decide)
  have e2 : ∀ z, z < 6 → (mFl 6 (fun _ => nI 2200) (fun _ => nI 0) z).toInt = 2200 := fun z hz => by rw [mFl_lt _ _ hz]; exact toI 2200 (by decide)
  have key : ∀ (f : Fin 8) (z : Fin 6), 0 ≤ (iEf 6 f.val z.val).toInt ∧ (iEf 6 f.val z.val).toInt ≤ 100 := by decide +kernel
  refine ⟨⟨fun z hz => ?_, fun z hz => ?_, fun f z hf hz => key ⟨f, hf⟩ ⟨z, hz⟩, ?_, ?_, ?_, ?_, by decide⟩, ⟨fun z hz => ?_, fun z hz => ?_, fun z hz => ?_, fun f hf => Or.inl rfl, fun f hf => ?_, fun k f hk hf => ?_, by decide⟩, rfl, fun _ k f _ _ _ => rfl, fun z hz => ?_, fun f hf _ => rfl, by decide⟩
  · show 0 ≤ (nI 0).toInt ∧ (nI 0).toInt ≤ 200
    rw [e0]; omega
  · show 1500 ≤ (mFl 6 (fun _ => nI 2200) (fun _ => nI 0) z).toInt ∧ (mFl 6 (fun _ => nI 2200) (fun _ => nI 0) z).toInt ≤ 3500
    rw [e2 z hz]; omega
  · show 0 ≤ (nI 20).toInt ∧ (nI 20).toInt ≤ 200
    rw [toI 20 (by decide)]; omega
  · show 0 ≤ (nI 10).toInt ∧ (nI 10).toInt ≤ 200
    rw [toI 10 (by decide)]; omega
  · show 1000 ≤ (nI 2500).toInt ∧ (nI 2500).toInt ≤ 5000
    rw [toI 2500 (by decide)]; omega
  · show 1000 ≤ (nI 2700).toInt ∧ (nI 2700).toInt ≤ 5000
    rw [toI 2700 (by decide)]; omega
  · show -50200 ≤ (mFl 6 (fun _ => nI 2000) (fun _ => nI 0) z).toInt ∧ (mFl 6 (fun _ => nI 2000) (fun _ => nI 0) z).toInt ≤ 17800
    rw [e1 z hz]; omega
  · show -20000 ≤ (nI 0).toInt ∧ (nI 0).toInt ≤ 20000
    rw [e0]; omega
  · show 0 ≤ (nI 0).toInt ∧ (nI 0).toInt ≤ 100
    rw [e0]; omega
  · show 0 ≤ (nI 0).toInt ∧ (nI 0).toInt ≤ 100
    rw [e0]; omega
  · show 0 ≤ (nI 0).toInt ∧ (nI 0).toInt ≤ 100
    rw [e0]; omega
  · show 0 ≤ (nI 0).toInt ∧ (nI 0).toInt ≤ ((0 : Nat) : Int)
    rw [e0]; omega
-- ===== YOUR PART BEGINS =====
set_option maxHeartbeats 4000000 in
set_option maxRecDepth 100000 in
theorem whole_start {p : Program} {e : Env} {s : State} {m : MethodId} {below : List Frame} {meth : Method} {c : Code} (l : Launch) (hflags : l.flags = flags0) {b L : Nat} {xs : Nat → Int32} (hL : L ≤ 260) (C0 : lw_At p s m meth c b L xs) : W p l e room_1 s m #[Value.ref b] below meth c s.heap [] 0 0 (lw_Z below #[Value.ref b] s) (entryFrame m ([Value.ref b] : List Value).toArray 14) := by
  obtain ⟨hx, hb, hr, hml, hown, hts0, hsc, hbl, hlocks, hgv⟩ := id C0
  have hst : l.stackTraces = false := by
    unfold Launch.stackTraces
    rw [hflags]
    decide +kernel
  have hfl := flat_of_before _ hgv
  have hts : ∀ w ∈ wsL_law, w.before #[Value.ref b] s = true := fun w h => hts0 w (wsL_law_in w h)
  have hi_X0 : ∀ w ∈ u_ws RX0 TX0 7, w ∈ wsL_law := by decide +kernel
  have hi_X1 : ∀ w ∈ u_ws RX1 TX1 8, w ∈ wsL_law := by decide +kernel
  have hi_X2 : ∀ w ∈ u_ws RX2 TX2 5, w ∈ wsL_law := by decide +kernel
  obtain ⟨c0, i0, k0⟩ := u_known (C := RX0) (T := TX0) (N := 7) (n := 7) hts hi_X0 (hts (.instantiable RX0 7) (by decide +kernel))
  obtain ⟨c1, i1, k1⟩ := u_known (C := RX1) (T := TX1) (N := 8) (n := 8) hts hi_X1 (hts (.instantiable RX1 8) (by decide +kernel))
  obtain ⟨c2, i2, k2⟩ := u_known (C := RX2) (T := TX2) (N := 5) (n := 5) hts hi_X2 (hts (.instantiable RX2 5) (by decide +kernel))
  obtain ⟨D, hKc⟩ : ∃ D : va_G, ∀ (k : Nat) (q : vw_C), vwCl[k]? = some q → u_Kn s q.1 q.2.1 q.2.2 (D.1 k) (D.2 k) := by
    refine ⟨(fun k => if k = 0 then c0 else if k = 1 then c1 else c2, fun k => if k = 0 then i0 else if k = 1 then i1 else i2), ?_⟩
    intro k q hq
    match k, hq with
    | 0, hq => cases hq; exact k0
    | 1, hq => cases hq; exact k1
    | 2, hq => cases hq; exact k2
    | k + 3, hq => simp [vwCl] at hq
  obtain ⟨cI, aI1, aI2⟩ := kArr (hts0 (.arrayClass .int) (by decide +kernel))
  obtain ⟨cZ, aZ1, aZ2⟩ := kArr (hts0 (.arrayClass .boolean) (by decide +kernel))
  obtain ⟨cJ, hcJ⟩ : ∃ c : ClassId, c = cI := ⟨_, rfl⟩
  have hO0 := hts0 (.arrayOver (.array .int)) (by decide +kernel)
  obtain ⟨cO, aO1, aO2⟩ := kArrO hO0
  have hO : va_AOA .int s := hO0
  have hK : va_K D vwCl (kT cI cZ cO cJ) s := by
    refine ⟨hKc, fun k q hq => ?_⟩
    match k, hq with
    | 0, hq => cases hq; exact ⟨aI1, aI2⟩
    | 1, hq => cases hq; exact ⟨aZ1, aZ2⟩
    | 2, hq => cases hq; exact ⟨aO1, aO2⟩
    | k + 3, hq => simp [kT] at hq
  have hN : kN s := va_Nw.of (by decide) (hts0 (.methodLinkNest RX0 72 yX2_holdWithin RX2) (by decide +kernel))
  obtain ⟨A, hA9⟩ : ∃ A : Nat → Prop, A = fun q => s.heap.size ≤ q := ⟨_, rfl⟩
  have hA : ∀ q : Nat, s.heap.size ≤ q → A q := fun q h => by rw [hA9]; exact h
  have hAr : ∀ q : Nat, A q → s.heap.size ≤ q := fun q h => by rw [hA9] at h; exact h
  have hAn : ∀ q : Nat, q < s.heap.size → ¬ A q := fun q h h2 => absurd (hAr q h2) (Nat.not_le.mpr h)
  have hbA : ¬ A b := hAn b hbl
  have hc2 : s.vm.findClass RX2 = some c2 := k2.2.1
  have hX : kX A s s.heap :=
    ⟨vx_Zqof (hts0 (.laysStatic Bundle.tN "UNASSIGNED_STACK" Bundle.steD) (by decide +kernel)) (hts0 (.initialized Bundle.tN) (by decide +kernel)) (hfl (.isRef (.static Bundle.tN "UNASSIGNED_STACK" Bundle.steD)) (by decide +kernel)) hAn,
     vx_Zqof (hts0 (.laysStatic Bundle.tN "SUPPRESSED_SENTINEL" Bundle.listD) (by decide +kernel)) (hts0 (.initialized Bundle.tN) (by decide +kernel)) (hfl (.isRef (.static Bundle.tN "SUPPRESSED_SENTINEL" Bundle.listD)) (by decide +kernel)) hAn,
     kStr hc2 (hts0 (.stringRef RX2 139 "an argument is out of range") (by decide +kernel)), kStr hc2 (hts0 (.stringRef RX2 79 "the fan has failed already") (by decide +kernel)), kStr hc2 (hts0 (.stringRef RX2 91 "the fan has not failed") (by decide +kernel)), kStr hc2 (hts0 (.stringRef RX2 101 "the clock would be above its greatest value") (by decide +kernel)),
     kXw.of xB_iae_ok (fun w h => hts0 w (in_xB_iae w h)), kXw.of xB_ise_ok (fun w h => hts0 w (in_xB_ise w h))⟩
  have hC : va_Nc nISE nIAE s := va_Nc.of (hfl (.not (.castable nISE nIAE)) (by decide +kernel))
  have hLC : LC p l s m #[Value.ref b] c D cI cZ cO cJ b L xs A := ⟨hx, hb, hml, hts, hown, hK, hN, hX, hC, hA, hsc, hbl, hbA, hst, hL⟩
  have hl := lv_entry ([.ref b]) (n := 14) (Nat.le_of_ble_eq_true rfl)
  rw [lg_entry_eq]
  generalize (lg_sl ([.ref b]) ++ List.replicate (14 - (lg_sl ([.ref b])).length) Slot.unset).toArray = ls at hl ⊢
  have hl : lv_has ls 14 [(0, .ref b)] := hl
  have hS : va_S A s.heap s.heap [] := va_S.rf
  have hP : va_P D vwCl [] s.heap := fun k q h => by simp at h
  have hD : va_D A [] := ⟨fun i j p q h => by simp at h, fun k q h => by simp at h⟩
  refine va_new (ci := 2) (fs := [.null, .null, .null, .null, .int 0]) (C := RX2) (T := TX2) (N := 5) hx hb hts hi_X2 tyX2 tyX2_ok hown (hts (.classLink RL 10 RX2) (by decide +kernel)) (hts (.instantiable RX2 5) (by decide +kernel)) (hts (.initialized RX2) (by decide +kernel)) hK hP hD hS hA rfl (fun j hj => by rcases (show j = 0 ∨ j = 1 ∨ j = 2 ∨ j = 3 ∨ j = 4 by omega) with rfl | rfl | rfl | rfl | rfl <;> rfl) (Nat.le_of_ble_eq_true rfl) (Nat.le_of_ble_eq_true rfl) dL_law_0 (fun x0 H hP hD hS => ?_)
  refine W.widen (k := 1) (n := 5) (by decide) (by decide) ?_
  have hP : va_P D vwCl [(x0, .inr (2, [.null, .null, .null, .null, .int 0]))] H := hP
  have hD : va_D A [(x0, .inr (2, [.null, .null, .null, .null, .int 0]))] := hD
  refine lv_dup hx hb dL_law_3 rfl ?_
  refine kCallC (W0 := [(x0, .inr (2, [.null, .null, .null, .null, .int 0]))]) (wr := []) hP hD hS hA [0] [] rfl rfl (by decide) (by decide) (va_runI (As := []) (rest := [.ref x0]) ⟨hx, hb, hml, hown, hts⟩ (c_X2_init l D cI cZ cO cJ x0 H.size) (cwI (rm := rmX2_init) 0 hts gL_law_X2_init rfl rfl rfl (hts (.initialized RX2) (by decide +kernel)) (hts (.methodLink RL 118 yX2_init) (by decide +kernel)) (hts (.instanceMethod yX2_init) (by decide +kernel)) rfl (by decide +kernel) ⟨Nat.le_of_ble_eq_true rfl, Nat.le_of_ble_eq_true rfl⟩) (kPreIC hK hN hO hP hD [0] (by decide) rfl) rfl rfl hl.1 rfl (lv_room (Nat.le_of_ble_eq_true rfl)) dL_law_4 ⟨Nat.le_of_ble_eq_true rfl, Nat.le_of_ble_eq_true rfl⟩) (fun u H locs hu hP hD hS => ?_)
  refine W.widen (k := 46) (n := 331) (by decide) (by decide) ?_
  rw [List.nil_append] at hP hD
  obtain ⟨x, hx9⟩ : ∃ x : Nat → Nat, x = (fun i => u (4 * i)) := ⟨_, rfl⟩
  obtain ⟨a, ha9⟩ : ∃ x : Nat → Nat, x = (fun i => u (4 * i + 1)) := ⟨_, rfl⟩
  obtain ⟨t, ht9⟩ : ∃ x : Nat → Nat, x = (fun i => u (4 * i + 2)) := ⟨_, rfl⟩
  obtain ⟨bb, hb9⟩ : ∃ x : Nat → Nat, x = (fun i => u (4 * i + 3)) := ⟨_, rfl⟩
  rw [← hx9, ← ha9, ← ht9, ← hb9] at hP hD
  have hx0 : x 0 = x0 := by rw [hx9]; exact hu
  rw [← hx0]
  have hP : va_P D vwCl (wQ cI cZ cO x a t bb q00 r00) H := hP
  have hD : va_D A (wQ cI cZ cO x a t bb q00 r00) := hD
  refine lv_astore_n (lv' := [(1, .ref (x 0)), (0, .ref b)]) hx hb dL_law_7 rfl hl (by decide) rfl (fun ls hl => ?_)
  refine lv_bipush (v := nI 48) hx hb dL_law_8 (by decide +kernel) ?_
  refine k_newa hx hb (atype := .int) (hts (.arrayClass .int) (by decide +kernel)) .int rfl rfl hK 0 rfl hP hD hS hA 48 (by decide) (a0 := (48, .inl (fun _ => 0))) (fun _ => rfl) (by decide) (Nat.le_of_ble_eq_true rfl) (Nat.le_of_ble_eq_true rfl) dL_law_10 (fun ae H hP hD hS => ?_)
  refine W.widen (k := 47) (n := 379) (by decide) (by decide) ?_
  refine lv_astore_n (lv' := [(2, .ref ae), (1, .ref (x 0)), (0, .ref b)]) hx hb dL_law_12 rfl hl (by decide) rfl (fun ls hl => ?_)
  refine lv_bipush (v := nI 30) hx hb dL_law_13 (by decide +kernel) ?_
  refine k_newa hx hb (atype := .int) (hts (.arrayClass .int) (by decide +kernel)) .int rfl rfl hK 0 rfl hP hD hS hA 30 (by decide) (a0 := (30, .inl (fun _ => 0))) (fun _ => rfl) (by decide) (Nat.le_of_ble_eq_true rfl) (Nat.le_of_ble_eq_true rfl) dL_law_15 (fun az H hP hD hS => ?_)
  refine W.widen (k := 48) (n := 409) (by decide) (by decide) ?_
  refine lv_astore_n (lv' := [(3, .ref az), (2, .ref ae), (1, .ref (x 0)), (0, .ref b)]) hx hb dL_law_17 rfl hl (by decide) rfl (fun ls hl => ?_)
  refine lv_bipush (v := nI 6) hx hb dL_law_18 (by decide +kernel) ?_
  refine k_newa hx hb (atype := .int) (hts (.arrayClass .int) (by decide +kernel)) .int rfl rfl hK 0 rfl hP hD hS hA 6 (by decide) (a0 := (6, .inl (fun _ => 0))) (fun _ => rfl) (by decide) (Nat.le_of_ble_eq_true rfl) (Nat.le_of_ble_eq_true rfl) dL_law_20 (fun ap H hP hD hS => ?_)
  refine W.widen (k := 49) (n := 415) (by decide) (by decide) ?_
  refine lv_astore (lv' := [(4, .ref ap), (3, .ref az), (2, .ref ae), (1, .ref (x 0)), (0, .ref b)]) hx hb dL_law_22 hl (by decide) rfl (fun ls hl => ?_)
  have hP : va_P D vwCl (wQ cI cZ cO x a t bb q00 r00 ++ [(ap, .inl (cI, 6, .inl (fun _ => 0))), (ae, .inl (cI, 48, .inl (fun _ => 0))), (az, .inl (cI, 30, .inl (fun _ => 0)))]) H := hP.sub [0, 1, 2, 3, 4, 5, 6, 7, 8, 9, 10, 11, 12, 13, 14, 15, 16, 17, 18, 19, 20, 21, 22, 23, 24, 25, 26, 27, 28, 29, 30, 31, 32, 33, 34, 35, 36, 37, 38, 39, 40, 41, 42, 43, 44, 45, 48, 46, 47] rfl
  have hD : va_D A (wQ cI cZ cO x a t bb q00 r00 ++ [(ap, .inl (cI, 6, .inl (fun _ => 0))), (ae, .inl (cI, 48, .inl (fun _ => 0))), (az, .inl (cI, 30, .inl (fun _ => 0)))]) := hD.sub [0, 1, 2, 3, 4, 5, 6, 7, 8, 9, 10, 11, 12, 13, 14, 15, 16, 17, 18, 19, 20, 21, 22, 23, 24, 25, 26, 27, 28, 29, 30, 31, 32, 33, 34, 35, 36, 37, 38, 39, 40, 41, 42, 43, 44, 45, 48, 46, 47] (by decide) rfl
  refine lv_aload hx hb dL_law_24 (lv_at hl 0 rfl) ?_
  refine lv_iconst (v := nI 0) hx hb dL_law_26 (by decide +kernel) ?_
  refine lv_bipush (v := nI 20) hx hb dL_law_27 (by decide +kernel) ?_
  refine k_iastT hx hb hK hP hD hS 0 0 rfl rfl (i := 0) (x := nI 20) (by decide) (by decide) dL_law_29 (fun H locs hP hD hS => ?_)
  have hP : va_P D vwCl (wQ cI cZ cO x a t bb q00 r00 ++ [(ap, .inl (cI, 6, .inl (upd (fun _ => 0) 0 (nI 20)))), (ae, .inl (cI, 48, .inl (fun _ => 0))), (az, .inl (cI, 30, .inl (fun _ => 0)))]) H := hP
  have hD : va_D A (wQ cI cZ cO x a t bb q00 r00 ++ [(ap, .inl (cI, 6, .inl (upd (fun _ => 0) 0 (nI 20)))), (ae, .inl (cI, 48, .inl (fun _ => 0))), (az, .inl (cI, 30, .inl (fun _ => 0)))]) := hD
  refine lv_aload hx hb dL_law_30 (lv_at hl 0 rfl) ?_
  refine lv_iconst (v := nI 1) hx hb dL_law_32 (by decide +kernel) ?_
  refine lv_bipush (v := nI 10) hx hb dL_law_33 (by decide +kernel) ?_
  refine k_iastT hx hb hK hP hD hS 0 0 rfl rfl (i := 1) (x := nI 10) (by decide) (by decide) dL_law_35 (fun H locs hP hD hS => ?_)
  have hP : va_P D vwCl (wQ cI cZ cO x a t bb q00 r00 ++ [(ap, .inl (cI, 6, .inl (upd (upd (fun _ => 0) 0 (nI 20)) 1 (nI 10)))), (ae, .inl (cI, 48, .inl (fun _ => 0))), (az, .inl (cI, 30, .inl (fun _ => 0)))]) H := hP
  have hD : va_D A (wQ cI cZ cO x a t bb q00 r00 ++ [(ap, .inl (cI, 6, .inl (upd (upd (fun _ => 0) 0 (nI 20)) 1 (nI 10)))), (ae, .inl (cI, 48, .inl (fun _ => 0))), (az, .inl (cI, 30, .inl (fun _ => 0)))]) := hD
  refine lv_aload hx hb dL_law_36 (lv_at hl 0 rfl) ?_
  refine lv_iconst (v := nI 2) hx hb dL_law_38 (by decide +kernel) ?_
  refine lv_sipush (v := nI 2500) hx hb dL_law_39 (by decide +kernel) ?_
  refine k_iastT hx hb hK hP hD hS 0 0 rfl rfl (i := 2) (x := nI 2500) (by decide) (by decide) dL_law_42 (fun H locs hP hD hS => ?_)
  have hP : va_P D vwCl (wQ cI cZ cO x a t bb q00 r00 ++ [(ap, .inl (cI, 6, .inl (upd (upd (upd (fun _ => 0) 0 (nI 20)) 1 (nI 10)) 2 (nI 2500)))), (ae, .inl (cI, 48, .inl (fun _ => 0))), (az, .inl (cI, 30, .inl (fun _ => 0)))]) H := hP
  have hD : va_D A (wQ cI cZ cO x a t bb q00 r00 ++ [(ap, .inl (cI, 6, .inl (upd (upd (upd (fun _ => 0) 0 (nI 20)) 1 (nI 10)) 2 (nI 2500)))), (ae, .inl (cI, 48, .inl (fun _ => 0))), (az, .inl (cI, 30, .inl (fun _ => 0)))]) := hD
  refine lv_aload hx hb dL_law_43 (lv_at hl 0 rfl) ?_
  refine lv_iconst (v := nI 3) hx hb dL_law_45 (by decide +kernel) ?_
  refine lv_sipush (v := nI 2700) hx hb dL_law_46 (by decide +kernel) ?_
  refine k_iastT hx hb hK hP hD hS 0 0 rfl rfl (i := 3) (x := nI 2700) (by decide) (by decide) dL_law_49 (fun H locs hP hD hS => ?_)
  have hP : va_P D vwCl (wQ cI cZ cO x a t bb q00 r00 ++ [(ap, .inl (cI, 6, .inl (upd (upd (upd (upd (fun _ => 0) 0 (nI 20)) 1 (nI 10)) 2 (nI 2500)) 3 (nI 2700)))), (ae, .inl (cI, 48, .inl (fun _ => 0))), (az, .inl (cI, 30, .inl (fun _ => 0)))]) H := hP
  have hD : va_D A (wQ cI cZ cO x a t bb q00 r00 ++ [(ap, .inl (cI, 6, .inl (upd (upd (upd (upd (fun _ => 0) 0 (nI 20)) 1 (nI 10)) 2 (nI 2500)) 3 (nI 2700)))), (ae, .inl (cI, 48, .inl (fun _ => 0))), (az, .inl (cI, 30, .inl (fun _ => 0)))]) := hD
  refine lv_aload hx hb dL_law_50 (lv_at hl 0 rfl) ?_
  refine lv_iconst (v := nI 4) hx hb dL_law_52 (by decide +kernel) ?_
  refine lv_iconst (v := nI 2) hx hb dL_law_53 (by decide +kernel) ?_
  refine k_iastT hx hb hK hP hD hS 0 0 rfl rfl (i := 4) (x := nI 2) (by decide) (by decide) dL_law_54 (fun H locs hP hD hS => ?_)
  have hP : va_P D vwCl (wQ cI cZ cO x a t bb q00 r00 ++ [(ap, .inl (cI, 6, .inl (upd (upd (upd (upd (upd (fun _ => 0) 0 (nI 20)) 1 (nI 10)) 2 (nI 2500)) 3 (nI 2700)) 4 (nI 2)))), (ae, .inl (cI, 48, .inl (fun _ => 0))), (az, .inl (cI, 30, .inl (fun _ => 0)))]) H := hP
  have hD : va_D A (wQ cI cZ cO x a t bb q00 r00 ++ [(ap, .inl (cI, 6, .inl (upd (upd (upd (upd (upd (fun _ => 0) 0 (nI 20)) 1 (nI 10)) 2 (nI 2500)) 3 (nI 2700)) 4 (nI 2)))), (ae, .inl (cI, 48, .inl (fun _ => 0))), (az, .inl (cI, 30, .inl (fun _ => 0)))]) := hD
  refine lv_iconst (v := nI 0) hx hb dL_law_55 (by decide +kernel) ?_
  refine lv_istore (lv' := [(5, .int (nI 0)), (4, .ref ap), (3, .ref az), (2, .ref ae), (1, .ref (x 0)), (0, .ref b)]) hx hb dL_law_56 hl (by decide) rfl (fun ls hl => ?_)
  have hP : va_P D vwCl (wQ cI cZ cO x a t bb q00 r00 ++ [(ap, .inl (cI, 6, .inl p00)), (ae, .inl (cI, 48, .inl (e00 0))), (az, .inl (cI, 30, .inl (z00 0)))]) H := hP
  have hD : va_D A (wQ cI cZ cO x a t bb q00 r00 ++ [(ap, .inl (cI, 6, .inl p00)), (ae, .inl (cI, 48, .inl (e00 0))), (az, .inl (cI, 30, .inl (z00 0)))]) := hD
  have lp : ∀ (n z : Nat), z + n = 6 → ∀ (H : Heap) (locs : List Loc), va_P D vwCl (wQ cI cZ cO x a t bb q00 r00 ++ [(ap, .inl (cI, 6, .inl p00)), (ae, .inl (cI, 48, .inl (e00 z))), (az, .inl (cI, 30, .inl (z00 z)))]) H → va_D A (wQ cI cZ cO x a t bb q00 r00 ++ [(ap, .inl (cI, 6, .inl p00)), (ae, .inl (cI, 48, .inl (e00 z))), (az, .inl (cI, 30, .inl (z00 z)))]) → va_S A s.heap H locs → ∀ ls : Array Slot, lv_has ls 14 [(0, .ref b), (1, .ref (x 0)), (2, .ref ae), (3, .ref az), (4, .ref ap), (5, .int (nI z))] → W p l e room_1 s m #[Value.ref b] below meth c H locs 49 415 (lw_Z below #[Value.ref b] s) (F0 m 58 ls []) := by
    intro n
    induction n with
    | zero =>
      intro z hz9 H locs hP hD hS ls hl
      have hz9 : z = 6 := by omega
      subst hz9
      refine lv_iload hx hb dL_law_58 (lv_at hl 5 rfl) ?_
      refine lv_bipush (v := nI 6) hx hb dL_law_60 (by decide +kernel) ?_
      refine lv_icmp_ge (tgt := 108) hx hb dL_law_62 (by decide) (fun _ => ?_) (fun c9 => absurd (nI_le (Nat.le_refl 6) (by decide)) c9)
      obtain ⟨ρ, hρ⟩ : ∃ ρ : HS, ρ = r00 := ⟨_, rfl⟩
      rw [← hρ] at hP hD
      refine lv_aload_n hx hb dL_law_108 rfl (lv_at hl 1 rfl) ?_
      refine lv_aload hx hb dL_law_109 (lv_at hl 4 rfl) ?_
      refine lv_iconst (v := nI 0) hx hb dL_law_111 (by decide +kernel) ?_
      have hPc : va_P D vwCl ((wQ cI cZ cO x a t bb q00 ρ ++ [(ap, .inl (cI, 6, .inl p00))]) ++ [(ae, .inl (cI, 48, .inl (e00 6))), (az, .inl (cI, 30, .inl (z00 6)))]) H := by rw [List.append_assoc]; exact hP
      have hDc : va_D A ((wQ cI cZ cO x a t bb q00 ρ ++ [(ap, .inl (cI, 6, .inl p00))]) ++ [(ae, .inl (cI, 48, .inl (e00 6))), (az, .inl (cI, 30, .inl (z00 6)))]) := by rw [List.append_assoc]; exact hD
      refine kCallP_i (mc := 48) (ms := 288) (T := [(ae, .inl (cI, 48, .inl (e00 6))), (az, .inl (cI, 30, .inl (z00 6)))]) (W1 := fun ρ : HS => wQ cI cZ cO x a t bb q00 ρ ++ [(ap, .inl (cI, 6, .inl p00))]) (fun _ _ h => h) hPc hDc hS hA (fun _ => rfl) (va_runS (As := [.ref (x 0), .ref ap, .int (nI 0)]) (rest := []) ⟨hx, hb, hml, hown, hts⟩ (c_L_isRefused l hst D cI cZ cO cJ x a t bb q00 ρ ap p00 0 0 H.size QOK_0 PR_0 (by omega)) (va_cwS (rm := rxL_isRefused) 3 hts gL_law_L_isRefused rfl rfl rfl (by decide +kernel) ⟨Nat.le_of_ble_eq_true rfl, Nat.le_of_ble_eq_true rfl⟩) (kPreSHW hK hN hX hC (pfP hPc) (pfD hDc) hS (kfree (pfD hDc) hS hA)) rfl rfl hl.1 rfl (lv_room (Nat.le_of_ble_eq_true rfl)) dL_law_112 ⟨Nat.le_of_ble_eq_true rfl, Nat.le_of_ble_eq_true rfl⟩) (fun r9 ρ H locs hr9 hP hD hS => ?_)
      have hr9 : r9 = nI 1 := hr9
      subst hr9
      have hP : va_P D vwCl (wQ cI cZ cO x a t bb q00 ρ ++ [(ap, .inl (cI, 6, .inl p00)), (ae, .inl (cI, 48, .inl (e00 6))), (az, .inl (cI, 30, .inl (z00 6)))]) H := by rw [List.append_assoc] at hP; exact hP
      have hD : va_D A (wQ cI cZ cO x a t bb q00 ρ ++ [(ap, .inl (cI, 6, .inl p00)), (ae, .inl (cI, 48, .inl (e00 6))), (az, .inl (cI, 30, .inl (z00 6)))]) := by rw [List.append_assoc] at hD; exact hD
      refine W.widen (k := 97) (n := 703) (by decide) (by decide) ?_
      refine lv_if_eq (tgt := 132) hx hb dL_law_115 (by decide) (fun c9 => absurd c9 (by decide +kernel)) (fun _ => ?_)
      refine lv_aload_n hx hb dL_law_118 rfl (lv_at hl 1 rfl) ?_
      refine lv_aload hx hb dL_law_119 (lv_at hl 4 rfl) ?_
      refine lv_iconst (v := nI 1) hx hb dL_law_121 (by decide +kernel) ?_
      have hPc : va_P D vwCl ((wQ cI cZ cO x a t bb q00 ρ ++ [(ap, .inl (cI, 6, .inl p00))]) ++ [(ae, .inl (cI, 48, .inl (e00 6))), (az, .inl (cI, 30, .inl (z00 6)))]) H := by rw [List.append_assoc]; exact hP
      have hDc : va_D A ((wQ cI cZ cO x a t bb q00 ρ ++ [(ap, .inl (cI, 6, .inl p00))]) ++ [(ae, .inl (cI, 48, .inl (e00 6))), (az, .inl (cI, 30, .inl (z00 6)))]) := by rw [List.append_assoc]; exact hD
      refine kCallP_i (mc := 48) (ms := 288) (T := [(ae, .inl (cI, 48, .inl (e00 6))), (az, .inl (cI, 30, .inl (z00 6)))]) (W1 := fun ρ : HS => wQ cI cZ cO x a t bb q00 ρ ++ [(ap, .inl (cI, 6, .inl p00))]) (fun _ _ h => h) hPc hDc hS hA (fun _ => rfl) (va_runS (As := [.ref (x 0), .ref ap, .int (nI 1)]) (rest := []) ⟨hx, hb, hml, hown, hts⟩ (c_L_isRefused l hst D cI cZ cO cJ x a t bb q00 ρ ap p00 0 1 H.size QOK_0 PR_0 (by omega)) (va_cwS (rm := rxL_isRefused) 3 hts gL_law_L_isRefused rfl rfl rfl (by decide +kernel) ⟨Nat.le_of_ble_eq_true rfl, Nat.le_of_ble_eq_true rfl⟩) (kPreSHW hK hN hX hC (pfP hPc) (pfD hDc) hS (kfree (pfD hDc) hS hA)) rfl rfl hl.1 rfl (lv_room (Nat.le_of_ble_eq_true rfl)) dL_law_122 ⟨Nat.le_of_ble_eq_true rfl, Nat.le_of_ble_eq_true rfl⟩) (fun r9 ρ H locs hr9 hP hD hS => ?_)
      have hr9 : r9 = nI 1 := hr9
      subst hr9
      have hP : va_P D vwCl (wQ cI cZ cO x a t bb q00 ρ ++ [(ap, .inl (cI, 6, .inl p00)), (ae, .inl (cI, 48, .inl (e00 6))), (az, .inl (cI, 30, .inl (z00 6)))]) H := by rw [List.append_assoc] at hP; exact hP
      have hD : va_D A (wQ cI cZ cO x a t bb q00 ρ ++ [(ap, .inl (cI, 6, .inl p00)), (ae, .inl (cI, 48, .inl (e00 6))), (az, .inl (cI, 30, .inl (z00 6)))]) := by rw [List.append_assoc] at hD; exact hD
      refine W.widen (k := 145) (n := 991) (by decide) (by decide) ?_
      refine lv_if_eq (tgt := 132) hx hb dL_law_125 (by decide) (fun c9 => absurd c9 (by decide +kernel)) (fun _ => ?_)
      refine lv_iconst (v := nI 1) hx hb dL_law_128 (by decide +kernel) ?_
      refine lv_goto (tgt := 133) hx hb dL_law_129 (by decide) ?_
      refine lv_istore (lv' := [(5, .int (nI 1)), (0, .ref b), (1, .ref (x 0)), (2, .ref ae), (3, .ref az), (4, .ref ap)]) hx hb dL_law_133 hl (by decide) rfl (fun ls hl => ?_)
      refine lv_iconst (v := nI 0) hx hb dL_law_135 (by decide +kernel) ?_
      refine lv_istore (lv' := [(6, .int (nI 0)), (5, .int (nI 1)), (0, .ref b), (1, .ref (x 0)), (2, .ref ae), (3, .ref az), (4, .ref ap)]) hx hb dL_law_136 hl (by decide) rfl (fun ls hl => ?_)
      exact law_hd hLC hr hlocks hAr 100 0 145 991 (by decide) (by decide) (by decide) q00 ρ p00 (e00 6) (z00 6) 0 QOK_0 (Nat.zero_le _) PR_0 ER_0 ZR_0 H locs hP hD hS ls (lv_sub hl [2, 3, 4, 5, 6, 1, 0] rfl)
    | succ n ih =>
      intro z hz9 H locs hP hD hS ls hl
      have hzb : z < 6 := by omega
      refine lv_iload hx hb dL_law_58 (lv_at hl 5 rfl) ?_
      refine lv_bipush (v := nI 6) hx hb dL_law_60 (by decide +kernel) ?_
      refine lv_icmp_ge (tgt := 108) hx hb dL_law_62 (by decide) (fun c9 => absurd c9 (nI_ge hzb (by decide))) (fun _ => ?_)
      refine lv_aload_n hx hb dL_law_65 rfl (lv_at hl 3 rfl) ?_
      refine lv_bipush (v := nI 6) hx hb dL_law_66 (by decide +kernel) ?_
      refine lv_iload hx hb dL_law_68 (lv_at hl 5 rfl) ?_
      refine lv_iadd hx hb dL_law_70 ?_
      refine k_as (nI_add _ _) ?_
      refine lv_sipush (v := nI 2200) hx hb dL_law_71 (by decide +kernel) ?_
      refine k_iastT hx hb hK hP hD hS 2 0 rfl rfl (i := 6 + z) (x := nI 2200) (by omega) (by decide) dL_law_74 (fun H locs hP hD hS => ?_)
      have hP : va_P D vwCl (wQ cI cZ cO x a t bb q00 r00 ++ [(ap, .inl (cI, 6, .inl p00)), (ae, .inl (cI, 48, .inl (e00 z))), (az, .inl (cI, 30, .inl (upd (z00 z) (6 + z) (nI 2200))))]) H := hP
      have hD : va_D A (wQ cI cZ cO x a t bb q00 r00 ++ [(ap, .inl (cI, 6, .inl p00)), (ae, .inl (cI, 48, .inl (e00 z))), (az, .inl (cI, 30, .inl (upd (z00 z) (6 + z) (nI 2200))))]) := hD
      refine lv_aload_n hx hb dL_law_75 rfl (lv_at hl 2 rfl) ?_
      refine lv_bipush (v := nI 7) hx hb dL_law_76 (by decide +kernel) ?_
      refine lv_iload hx hb dL_law_78 (lv_at hl 5 rfl) ?_
      refine lv_imul hx hb dL_law_80 ?_
      refine k_as (pk_mul _ _) ?_
      refine lv_bipush (v := nI 60) hx hb dL_law_81 (by decide +kernel) ?_
      refine k_iastT hx hb hK hP hD hS 1 0 rfl rfl (i := 7 * z) (x := nI 60) (by omega) (by decide) dL_law_83 (fun H locs hP hD hS => ?_)
      have hP : va_P D vwCl (wQ cI cZ cO x a t bb q00 r00 ++ [(ap, .inl (cI, 6, .inl p00)), (ae, .inl (cI, 48, .inl (upd (e00 z) (7 * z) (nI 60)))), (az, .inl (cI, 30, .inl (upd (z00 z) (6 + z) (nI 2200))))]) H := hP
      have hD : va_D A (wQ cI cZ cO x a t bb q00 r00 ++ [(ap, .inl (cI, 6, .inl p00)), (ae, .inl (cI, 48, .inl (upd (e00 z) (7 * z) (nI 60)))), (az, .inl (cI, 30, .inl (upd (z00 z) (6 + z) (nI 2200))))]) := hD
      refine lv_aload_n hx hb dL_law_84 rfl (lv_at hl 2 rfl) ?_
      refine lv_bipush (v := nI 36) hx hb dL_law_85 (by decide +kernel) ?_
      refine lv_iload hx hb dL_law_87 (lv_at hl 5 rfl) ?_
      refine lv_iadd hx hb dL_law_89 ?_
      refine k_as (nI_add _ _) ?_
      refine lv_bipush (v := nI 20) hx hb dL_law_90 (by decide +kernel) ?_
      refine k_iastT hx hb hK hP hD hS 1 0 rfl rfl (i := 36 + z) (x := nI 20) (by omega) (by decide) dL_law_92 (fun H locs hP hD hS => ?_)
      have hP : va_P D vwCl (wQ cI cZ cO x a t bb q00 r00 ++ [(ap, .inl (cI, 6, .inl p00)), (ae, .inl (cI, 48, .inl (upd (upd (e00 z) (7 * z) (nI 60)) (36 + z) (nI 20)))), (az, .inl (cI, 30, .inl (upd (z00 z) (6 + z) (nI 2200))))]) H := hP
      have hD : va_D A (wQ cI cZ cO x a t bb q00 r00 ++ [(ap, .inl (cI, 6, .inl p00)), (ae, .inl (cI, 48, .inl (upd (upd (e00 z) (7 * z) (nI 60)) (36 + z) (nI 20)))), (az, .inl (cI, 30, .inl (upd (z00 z) (6 + z) (nI 2200))))]) := hD
      refine lv_aload_n hx hb dL_law_93 rfl (lv_at hl 2 rfl) ?_
      refine lv_bipush (v := nI 42) hx hb dL_law_94 (by decide +kernel) ?_
      refine lv_iload hx hb dL_law_96 (lv_at hl 5 rfl) ?_
      refine lv_iadd hx hb dL_law_98 ?_
      refine k_as (nI_add _ _) ?_
      refine lv_bipush (v := nI 20) hx hb dL_law_99 (by decide +kernel) ?_
      refine k_iastT hx hb hK hP hD hS 1 0 rfl rfl (i := 42 + z) (x := nI 20) (by omega) (by decide) dL_law_101 (fun H locs hP hD hS => ?_)
      have hP : va_P D vwCl (wQ cI cZ cO x a t bb q00 r00 ++ [(ap, .inl (cI, 6, .inl p00)), (ae, .inl (cI, 48, .inl (upd (upd (upd (e00 z) (7 * z) (nI 60)) (36 + z) (nI 20)) (42 + z) (nI 20)))), (az, .inl (cI, 30, .inl (upd (z00 z) (6 + z) (nI 2200))))]) H := hP
      have hD : va_D A (wQ cI cZ cO x a t bb q00 r00 ++ [(ap, .inl (cI, 6, .inl p00)), (ae, .inl (cI, 48, .inl (upd (upd (upd (e00 z) (7 * z) (nI 60)) (36 + z) (nI 20)) (42 + z) (nI 20)))), (az, .inl (cI, 30, .inl (upd (z00 z) (6 + z) (nI 2200))))]) := hD
      refine lv_iinc (v := nI (z + 1)) (lv' := [(5, .int (nI (z + 1))), (0, .ref b), (1, .ref (x 0)), (2, .ref ae), (3, .ref az), (4, .ref ap)]) hx hb dL_law_102 hl (k := 5) rfl (k_inc _) (by decide) rfl (fun ls hl => ?_)
      refine lv_goto (tgt := 58) hx hb dL_law_105 (by decide) ?_
      exact ih (z + 1) (by omega) H locs hP hD hS ls (lv_sub hl [1, 2, 3, 4, 5, 0] rfl)
  exact lp 6 0 rfl H locs hP hD hS ls (lv_sub hl [5, 4, 3, 2, 1, 0] rfl)
