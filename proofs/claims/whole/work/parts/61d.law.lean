section LB
variable {p : Program} {l : Launch} {e : Env} {s : State} {m : MethodId} {args : Array Value} {below : List Frame} {meth : Method} {c : Code} {Q : State → Prop} {D : va_G} {cI cZ cO cJ : ClassId} {x a t b y : Nat → Nat} {o bs L : Nat} {xs : Nat → Int32} {A : Nat → Prop} {i cl sl : Nat}
variable {σ ρ : HS} {μ : MS} {ck : Nat} {Ho Hm Lo Se Em : Nat → Int32} {Ef : Nat → Nat → Int32} {gp gi am li : Int32} {dl : Nat} {g : Nat → Int64} {th : Int32} {H : Heap} {locs : List Loc} {ls : Array Slot}
set_option maxHeartbeats 4000000 in
set_option maxRecDepth 100000 in
theorem lb_pass_bad (h : ¬ inR (xs (i + 1)) (nI 1) (nI 300)) (h0 : LC p l s m args c D cI cZ cO cJ bs L xs A) (hi : i + 4 ≤ L) (hcl : cl + 1 ≤ 653765) (hsl : sl + 6 ≤ 7134809) (hI : LI σ μ ck Ho Hm Lo Se Em Ef gp gi am dl) (hP : va_P D vwCl (wL cI cZ cO cJ x a t b y o σ ρ μ ck Ho Hm Lo Se Em Ef gp gi am li dl g th) H) (hD : va_D A (wL cI cZ cO cJ x a t b y o σ ρ μ ck Ho Hm Lo Se Em Ef gp gi am li dl g th)) (hS : va_S A s.heap H locs) (hl : lv_has ls 7 [(0, .ref bs), (1, .ref (x 0)), (2, .ref (y 0)), (3, .ref o), (4, .int (nI i))]) (kk : Hd p l e s m args below meth c D cI cZ cO cJ x a t b y o bs A Q (i + 4) (cl + 1) (sl + 6)) : W p l e room_1 s m args below meth c H locs cl sl Q (F0 m 724 ls []) := by
  obtain ⟨hx, hb, hml, hts, hown, hK, hN, hX, hC, hA, hsc, hbl, hbA, hst, hL⟩ := h0
  refine lv_aload_n hx hb dL_law_724 rfl (lv_at hl 1 rfl) ?_
  refine lv_aload_n hx hb dL_law_725 rfl (lv_at hl 0 rfl) ?_
  refine lv_iload hx hb dL_law_726 (lv_at hl 4 rfl) ?_
  refine lv_iconst (v := nI 1) hx hb dL_law_728 (by decide +kernel) ?_
  refine lv_iadd hx hb dL_law_729 ?_
  refine k_as (nI_add _ _) ?_
  refine k_sld hx hb hsc hbl hbA hS (v := xs (i + 1)) (by omega) hL rfl dL_law_730 ?_
  refine lv_aload_n hx hb dL_law_731 rfl (lv_at hl 3 rfl) ?_
  refine kCallP_i (mc := 1) (ms := 6) (W1 := fun _ : Unit => wC cI cZ cO x a t b ck Ho (sT σ) (sE σ) (sD σ) (sF σ) (sS σ) (sC σ) (sL σ) (sT ρ) (sE ρ) (sD ρ) (sF ρ) (sS ρ) (sC ρ) (sL ρ) Lo Se Ef gp gi am li dl ++ [(o, .inl (cJ, 1, .inr (.inl g)))]) (fun _ _ h => h) hP hD hS hA (fun _ => rfl) (vx_runSW (As := [.ref (x 0), .int (xs (i + 1)), .ref o]) (rest := []) ⟨hx, hb, hml, hown, hts⟩ (c_L_pass_bad l hst D cI cZ cO cJ x a t b ck Ho (sT σ) (sE σ) (sD σ) (sF σ) (sS σ) (sC σ) (sL σ) (sT ρ) (sE ρ) (sD ρ) (sF ρ) (sS ρ) (sC ρ) (sL ρ) Lo Se Ef gp gi am li dl (xs (i + 1)) o g H.size h) (vx_cwSW (rm := rxL_pass) 3 hts gL_law_L_pass rfl rfl rfl (by decide +kernel) ⟨Nat.le_of_ble_eq_true rfl, Nat.le_of_ble_eq_true rfl⟩) (kPreSHW hK hN hX hC (pfP hP) (pfD hD) hS (kfree (pfD hD) hS hA)) rfl rfl hl.1 rfl (lv_room (Nat.le_of_ble_eq_true rfl)) dL_law_732 ⟨by show _ ≤ 653765; omega, by show _ ≤ 7134809; omega⟩) (fun r9 u H locs hr9 hP hD hS => ?_)
  subst hr9
  have hP : va_P D vwCl ((wC cI cZ cO x a t b ck Ho (sT σ) (sE σ) (sD σ) (sF σ) (sS σ) (sC σ) (sL σ) (sT ρ) (sE ρ) (sD ρ) (sF ρ) (sS ρ) (sC ρ) (sL ρ) Lo Se Ef gp gi am li dl ++ [(o, .inl (cJ, 1, .inr (.inl g)))]) ++ wM cI cZ y Lo Se Em gp gi am li dl (rK μ) (rT μ) (rE μ) (rD μ) (rF μ) (rS μ) (rC μ) Hm th) H := hP
  have hD : va_D A ((wC cI cZ cO x a t b ck Ho (sT σ) (sE σ) (sD σ) (sF σ) (sS σ) (sC σ) (sL σ) (sT ρ) (sE ρ) (sD ρ) (sF ρ) (sS ρ) (sC ρ) (sL ρ) Lo Se Ef gp gi am li dl ++ [(o, .inl (cJ, 1, .inr (.inl g)))]) ++ wM cI cZ y Lo Se Em gp gi am li dl (rK μ) (rT μ) (rE μ) (rD μ) (rF μ) (rS μ) (rC μ) Hm th) := hD
  refine lv_istore (lv' := [(5, .int (nI 1)), (0, .ref bs), (1, .ref (x 0)), (2, .ref (y 0)), (3, .ref o), (4, .int (nI i))]) hx hb dL_law_735 hl (by decide) rfl (fun ls hl => ?_)
  refine lv_aload_n hx hb dL_law_737 rfl (lv_at hl 3 rfl) ?_
  refine lv_aload_n hx hb dL_law_738 rfl (lv_at hl 1 rfl) ?_
  refine lv_iload hx hb dL_law_739 (lv_at hl 5 rfl) ?_
  refine lv_iconst (v := nI 1) hx hb dL_law_741 (by decide +kernel) ?_
  refine lv_iadd hx hb dL_law_742 ?_
  refine k_as (nI_add _ _) ?_
  refine k_sld hx hb hsc hbl hbA hS (v := xs (i + 1)) (by omega) hL rfl dL_law_743 ?_
  refine kCallS_i (mc := 0) (ms := 0) (W1 := fun _ : Unit => wM cI cZ y Lo Se Em gp gi am li dl (rK μ) (rT μ) (rE μ) (rD μ) (rF μ) (rS μ) (rC μ) Hm (nI 1)) (fun _ _ h => h) hP hD hS hA (fun _ => rfl) (va_runV (As := [.int (xs (i + 1))]) (rest := []) ⟨hx, hb, hml, hown, hts⟩ (c_X3_pass_bad l D cI cZ cO cJ y Lo Se Em gp gi am li dl (rK μ) (rT μ) (rE μ) (rD μ) (rF μ) (rS μ) (rC μ) Hm th (xs (i + 1)) H.size h) (cwV (rm := rmX3_pass) 1 hts gL_law_X3_pass rfl rfl rfl (by decide +kernel) ⟨Nat.le_of_ble_eq_true rfl, Nat.le_of_ble_eq_true rfl⟩) (kPreVW hK hN (sfP hP) (sfD hD) (va_recv hK (sfP hP) (ci := 3) (q0 := 0) rfl rfl)) rfl rfl hl.1 rfl (lv_room (Nat.le_of_ble_eq_true rfl)) dL_law_744 ⟨by show _ ≤ 653765; omega, by show _ ≤ 7134809; omega⟩) (fun r9 u2 H locs hr9 hP hD hS => ?_)
  subst hr9
  have hP : va_P D vwCl ((wC cI cZ cO x a t b ck Ho (sT σ) (sE σ) (sD σ) (sF σ) (sS σ) (sC σ) (sL σ) (sT ρ) (sE ρ) (sD ρ) (sF ρ) (sS ρ) (sC ρ) (sL ρ) Lo Se Ef gp gi am li dl ++ [(o, .inl (cJ, 1, .inr (.inl g)))]) ++ wM cI cZ y Lo Se Em gp gi am li dl (rK μ) (rT μ) (rE μ) (rD μ) (rF μ) (rS μ) (rC μ) Hm (nI 1)) H := hP
  have hD : va_D A ((wC cI cZ cO x a t b ck Ho (sT σ) (sE σ) (sD σ) (sF σ) (sS σ) (sC σ) (sL σ) (sT ρ) (sE ρ) (sD ρ) (sF ρ) (sS ρ) (sC ρ) (sL ρ) Lo Se Ef gp gi am li dl ++ [(o, .inl (cJ, 1, .inr (.inl g)))]) ++ wM cI cZ y Lo Se Em gp gi am li dl (rK μ) (rT μ) (rE μ) (rD μ) (rF μ) (rS μ) (rC μ) Hm (nI 1)) := hD
  refine lv_istore (lv' := [(6, .int (nI 0)), (5, .int (nI 1)), (0, .ref bs), (1, .ref (x 0)), (2, .ref (y 0)), (3, .ref o), (4, .int (nI i))]) hx hb dL_law_747 hl (by decide) rfl (fun ls hl => ?_)
  refine lv_aload_n hx hb dL_law_749 rfl (lv_at hl 4 rfl) ?_
  refine kCallS_i (mc := 0) (ms := 0) (W1 := fun _ : Unit => wM cI cZ y Lo Se Em gp gi am li dl (rK μ) (rT μ) (rE μ) (rD μ) (rF μ) (rS μ) (rC μ) Hm (nI 1)) (fun _ _ h => h) hP hD hS hA (fun _ => rfl) (va_runV (As := []) (rest := []) ⟨hx, hb, hml, hown, hts⟩ (c_X3_thrown l D cI cZ cO cJ y Lo Se Em gp gi am li dl (rK μ) (rT μ) (rE μ) (rD μ) (rF μ) (rS μ) (rC μ) Hm (nI 1) H.size) (cwV (rm := rmX3_thrown) 0 hts gL_law_X3_thrown rfl rfl rfl (by decide +kernel) ⟨Nat.le_of_ble_eq_true rfl, Nat.le_of_ble_eq_true rfl⟩) (kPreVW hK hN (sfP hP) (sfD hD) (va_recv hK (sfP hP) (ci := 3) (q0 := 0) rfl rfl)) rfl rfl hl.1 rfl (lv_room (Nat.le_of_ble_eq_true rfl)) dL_law_750 ⟨by show _ ≤ 653765; omega, by show _ ≤ 7134809; omega⟩) (fun r9 u3 H locs hr9 hP hD hS => ?_)
  subst hr9
  have hP : va_P D vwCl ((wC cI cZ cO x a t b ck Ho (sT σ) (sE σ) (sD σ) (sF σ) (sS σ) (sC σ) (sL σ) (sT ρ) (sE ρ) (sD ρ) (sF ρ) (sS ρ) (sC ρ) (sL ρ) Lo Se Ef gp gi am li dl ++ [(o, .inl (cJ, 1, .inr (.inl g)))]) ++ wM cI cZ y Lo Se Em gp gi am li dl (rK μ) (rT μ) (rE μ) (rD μ) (rF μ) (rS μ) (rC μ) Hm (nI 1)) H := hP
  have hD : va_D A ((wC cI cZ cO x a t b ck Ho (sT σ) (sE σ) (sD σ) (sF σ) (sS σ) (sC σ) (sL σ) (sT ρ) (sE ρ) (sD ρ) (sF ρ) (sS ρ) (sC ρ) (sL ρ) Lo Se Ef gp gi am li dl ++ [(o, .inl (cJ, 1, .inr (.inl g)))]) ++ wM cI cZ y Lo Se Em gp gi am li dl (rK μ) (rT μ) (rE μ) (rD μ) (rF μ) (rS μ) (rC μ) Hm (nI 1)) := hD
  refine lv_iload hx hb dL_law_753 (lv_at hl 1 rfl) ?_
  refine lv_icmp_eq (tgt := 760) hx hb dL_law_755 (by decide) (fun _ => ?_) (fun c9 => absurd rfl c9)
  refine lv_iload hx hb dL_law_760 (lv_at hl 1 rfl) ?_
  refine lv_if_ne (tgt := 777) hx hb dL_law_762 (by decide) (fun _ => ?_) (fun c9 => absurd c9 (by decide))
  refine lv_goto (tgt := 1234) hx hb dL_law_777 (by decide) ?_
  refine lv_iinc (v := nI (i + 4)) (lv' := [(4, .int (nI (i + 4))), (6, .int (nI 0)), (5, .int (nI 1)), (0, .ref bs), (1, .ref (x 0)), (2, .ref (y 0)), (3, .ref o)]) hx hb dL_law_1234 hl (k := 6) rfl (nI_add _ 4) (by decide) rfl (fun ls hl => ?_)
  refine lv_goto (tgt := 23) hx hb dL_law_1237 (by decide) ?_
  refine W.widen (k := cl + 1) (n := sl + 6) (by omega) (by omega) ?_
  exact kk σ ρ μ ck Ho Hm Lo Se Em Ef gp gi am li dl _ _ hI H locs hP hD hS ls (lv_sub hl [3, 4, 5, 6, 0] rfl)

set_option maxHeartbeats 4000000 in
set_option maxRecDepth 100000 in
theorem lb_expected_ok (z0 m9 : Nat) (e1 : xs (i + 1) = nI z0) (e2 : xs (i + 2) = nI (m9 + 1)) (hz0 : z0 < 6) (hm : m9 < 60) (h0 : LC p l s m args c D cI cZ cO cJ bs L xs A) (hi : i + 4 ≤ L) (hcl : cl + 1 ≤ 653765) (hsl : sl + 6 ≤ 7134809) (hI : LI σ μ ck Ho Hm Lo Se Em Ef gp gi am dl) (hP : va_P D vwCl (wL cI cZ cO cJ x a t b y o σ ρ μ ck Ho Hm Lo Se Em Ef gp gi am li dl g th) H) (hD : va_D A (wL cI cZ cO cJ x a t b y o σ ρ μ ck Ho Hm Lo Se Em Ef gp gi am li dl g th)) (hS : va_S A s.heap H locs) (hl : lv_has ls 7 [(0, .ref bs), (1, .ref (x 0)), (2, .ref (y 0)), (3, .ref o), (4, .int (nI i))]) (kk : Hd p l e s m args below meth c D cI cZ cO cJ x a t b y o bs A Q (i + 4) (cl + 1) (sl + 6)) : W p l e room_1 s m args below meth c H locs cl sl Q (F0 m 1030 ls []) := by
  obtain ⟨hx, hb, hml, hts, hown, hK, hN, hX, hC, hA, hsc, hbl, hbA, hst, hL⟩ := h0
  refine lv_aload_n hx hb dL_law_1030 rfl (lv_at hl 1 rfl) ?_
  refine lv_aload_n hx hb dL_law_1031 rfl (lv_at hl 0 rfl) ?_
  refine lv_iload hx hb dL_law_1032 (lv_at hl 4 rfl) ?_
  refine lv_iconst (v := nI 1) hx hb dL_law_1034 (by decide +kernel) ?_
  refine lv_iadd hx hb dL_law_1035 ?_
  refine k_as (nI_add _ _) ?_
  refine k_sld hx hb hsc hbl hbA hS (v := nI z0) (by omega) hL e1 dL_law_1036 ?_
  refine lv_aload_n hx hb dL_law_1037 rfl (lv_at hl 0 rfl) ?_
  refine lv_iload hx hb dL_law_1038 (lv_at hl 4 rfl) ?_
  refine lv_iconst (v := nI 2) hx hb dL_law_1040 (by decide +kernel) ?_
  refine lv_iadd hx hb dL_law_1041 ?_
  refine k_as (nI_add _ _) ?_
  refine k_sld hx hb hsc hbl hbA hS (v := nI (m9 + 1)) (by omega) hL e2 dL_law_1042 ?_
  refine lv_aload_n hx hb dL_law_1043 rfl (lv_at hl 3 rfl) ?_
  refine kCallP_i (mc := 0) (ms := 0) (W1 := fun u : HS => wC cI cZ cO x a t b ck Ho (sT σ) (sE σ) (sD σ) (sF σ) (sS σ) (sC σ) (sL σ) (sT u) (sE u) (sD u) (sF u) (sS u) (sC u) (sL u) Lo Se Ef gp gi am li dl ++ [(o, .inl (cJ, 1, .inr (.inl (vp_updL g 0 ((gOf gp gi am Lo Se Ef dl σ z0 m9)).toInt64))))]) (fun _ _ h => h) hP hD hS hA (fun _ => rfl) (vx_runSW (As := [.ref (x 0), .int (nI z0), .int (nI (m9 + 1)), .ref o]) (rest := []) ⟨hx, hb, hml, hown, hts⟩ (c_L_expected l D cI cZ cO cJ x a t b ck Ho σ (sT ρ) (sE ρ) (sD ρ) (sF ρ) (sS ρ) (sC ρ) (sL ρ) Lo Se Ef gp gi am li dl z0 m9 o g H.size hz0 hm (LI_la hI) hI.2.1.2.2.2.2.2.2.1 (LI_F hI)) (vx_cwSW (rm := rmL_expected) 4 hts gL_law_L_expected rfl rfl rfl (by decide +kernel) ⟨Nat.le_of_ble_eq_true rfl, Nat.le_of_ble_eq_true rfl⟩) (kPreSHW hK hN hX hC (pfP hP) (pfD hD) hS (kfree (pfD hD) hS hA)) rfl rfl hl.1 rfl (lv_room (Nat.le_of_ble_eq_true rfl)) dL_law_1044 ⟨by show _ ≤ 653765; omega, by show _ ≤ 7134809; omega⟩) (fun r9 u H locs hr9 hP hD hS => ?_)
  subst hr9
  have hP : va_P D vwCl ((wC cI cZ cO x a t b ck Ho (sT σ) (sE σ) (sD σ) (sF σ) (sS σ) (sC σ) (sL σ) (sT u) (sE u) (sD u) (sF u) (sS u) (sC u) (sL u) Lo Se Ef gp gi am li dl ++ [(o, .inl (cJ, 1, .inr (.inl (vp_updL g 0 ((gOf gp gi am Lo Se Ef dl σ z0 m9)).toInt64))))]) ++ wM cI cZ y Lo Se Em gp gi am li dl (rK μ) (rT μ) (rE μ) (rD μ) (rF μ) (rS μ) (rC μ) Hm th) H := hP
  have hD : va_D A ((wC cI cZ cO x a t b ck Ho (sT σ) (sE σ) (sD σ) (sF σ) (sS σ) (sC σ) (sL σ) (sT u) (sE u) (sD u) (sF u) (sS u) (sC u) (sL u) Lo Se Ef gp gi am li dl ++ [(o, .inl (cJ, 1, .inr (.inl (vp_updL g 0 ((gOf gp gi am Lo Se Ef dl σ z0 m9)).toInt64))))]) ++ wM cI cZ y Lo Se Em gp gi am li dl (rK μ) (rT μ) (rE μ) (rD μ) (rF μ) (rS μ) (rC μ) Hm th) := hD
  refine lv_istore (lv' := [(5, .int (nI 0)), (0, .ref bs), (1, .ref (x 0)), (2, .ref (y 0)), (3, .ref o), (4, .int (nI i))]) hx hb dL_law_1047 hl (by decide) rfl (fun ls hl => ?_)
  refine lv_aload_n hx hb dL_law_1049 rfl (lv_at hl 3 rfl) ?_
  refine lv_aload_n hx hb dL_law_1050 rfl (lv_at hl 1 rfl) ?_
  refine lv_iload hx hb dL_law_1051 (lv_at hl 5 rfl) ?_
  refine lv_iconst (v := nI 1) hx hb dL_law_1053 (by decide +kernel) ?_
  refine lv_iadd hx hb dL_law_1054 ?_
  refine k_as (nI_add _ _) ?_
  refine k_sld hx hb hsc hbl hbA hS (v := nI z0) (by omega) hL e1 dL_law_1055 ?_
  refine lv_aload_n hx hb dL_law_1056 rfl (lv_at hl 1 rfl) ?_
  refine lv_iload hx hb dL_law_1057 (lv_at hl 5 rfl) ?_
  refine lv_iconst (v := nI 2) hx hb dL_law_1059 (by decide +kernel) ?_
  refine lv_iadd hx hb dL_law_1060 ?_
  refine k_as (nI_add _ _) ?_
  refine k_sld hx hb hsc hbl hbA hS (v := nI (m9 + 1)) (by omega) hL e2 dL_law_1061 ?_
  refine kCallS_i (mc := 0) (ms := 0) (W1 := fun u2 : MS => wM cI cZ y Lo Se Em gp gi am li dl (rK u2) (rT u2) (rE u2) (rD u2) (rF u2) (rS u2) (rC u2) Hm (nI 0)) (fun _ _ h => h) hP hD hS hA (fun _ => rfl) (va_runV (As := [.int (nI z0), .int (nI (m9 + 1))]) (rest := []) ⟨hx, hb, hml, hown, hts⟩ (c_X3_expected_ok l D cI cZ cO cJ y Lo Se Em gp gi am li dl μ Hm th Ef σ z0 m9 H.size hI.2.1 hI.1 (by rw [hI.2.2.1]; exact hI.2.2.2.1) hz0 hm) (cwV (rm := rmX3_expected) 2 hts gL_law_X3_expected rfl rfl rfl (by decide +kernel) ⟨Nat.le_of_ble_eq_true rfl, Nat.le_of_ble_eq_true rfl⟩) (kPreVW hK hN (sfP hP) (sfD hD) (va_recv hK (sfP hP) (ci := 3) (q0 := 0) rfl rfl)) rfl rfl hl.1 rfl (lv_room (Nat.le_of_ble_eq_true rfl)) dL_law_1062 ⟨by show _ ≤ 653765; omega, by show _ ≤ 7134809; omega⟩) (fun r9 u2 H locs hr9 hP hD hS => ?_)
  obtain ⟨hr9, hu⟩ := hr9
  subst hr9
  have hP : va_P D vwCl ((wC cI cZ cO x a t b ck Ho (sT σ) (sE σ) (sD σ) (sF σ) (sS σ) (sC σ) (sL σ) (sT u) (sE u) (sD u) (sF u) (sS u) (sC u) (sL u) Lo Se Ef gp gi am li dl ++ [(o, .inl (cJ, 1, .inr (.inl (vp_updL g 0 ((gOf gp gi am Lo Se Ef dl σ z0 m9)).toInt64))))]) ++ wM cI cZ y Lo Se Em gp gi am li dl (rK u2) (rT u2) (rE u2) (rD u2) (rF u2) (rS u2) (rC u2) Hm (nI 0)) H := hP
  have hD : va_D A ((wC cI cZ cO x a t b ck Ho (sT σ) (sE σ) (sD σ) (sF σ) (sS σ) (sC σ) (sL σ) (sT u) (sE u) (sD u) (sF u) (sS u) (sC u) (sL u) Lo Se Ef gp gi am li dl ++ [(o, .inl (cJ, 1, .inr (.inl (vp_updL g 0 ((gOf gp gi am Lo Se Ef dl σ z0 m9)).toInt64))))]) ++ wM cI cZ y Lo Se Em gp gi am li dl (rK u2) (rT u2) (rE u2) (rD u2) (rF u2) (rS u2) (rC u2) Hm (nI 0)) := hD
  refine lv_istore (lv' := [(6, .int (gOf gp gi am Lo Se Ef dl σ z0 m9)), (5, .int (nI 0)), (0, .ref bs), (1, .ref (x 0)), (2, .ref (y 0)), (3, .ref o), (4, .int (nI i))]) hx hb dL_law_1065 hl (by decide) rfl (fun ls hl => ?_)
  refine lv_aload_n hx hb dL_law_1067 rfl (lv_at hl 4 rfl) ?_
  refine kCallS_i (mc := 0) (ms := 0) (W1 := fun _ : Unit => wM cI cZ y Lo Se Em gp gi am li dl (rK u2) (rT u2) (rE u2) (rD u2) (rF u2) (rS u2) (rC u2) Hm (nI 0)) (fun _ _ h => h) hP hD hS hA (fun _ => rfl) (va_runV (As := []) (rest := []) ⟨hx, hb, hml, hown, hts⟩ (c_X3_thrown l D cI cZ cO cJ y Lo Se Em gp gi am li dl (rK u2) (rT u2) (rE u2) (rD u2) (rF u2) (rS u2) (rC u2) Hm (nI 0) H.size) (cwV (rm := rmX3_thrown) 0 hts gL_law_X3_thrown rfl rfl rfl (by decide +kernel) ⟨Nat.le_of_ble_eq_true rfl, Nat.le_of_ble_eq_true rfl⟩) (kPreVW hK hN (sfP hP) (sfD hD) (va_recv hK (sfP hP) (ci := 3) (q0 := 0) rfl rfl)) rfl rfl hl.1 rfl (lv_room (Nat.le_of_ble_eq_true rfl)) dL_law_1068 ⟨by show _ ≤ 653765; omega, by show _ ≤ 7134809; omega⟩) (fun r9 u3 H locs hr9 hP hD hS => ?_)
  subst hr9
  have hP : va_P D vwCl ((wC cI cZ cO x a t b ck Ho (sT σ) (sE σ) (sD σ) (sF σ) (sS σ) (sC σ) (sL σ) (sT u) (sE u) (sD u) (sF u) (sS u) (sC u) (sL u) Lo Se Ef gp gi am li dl ++ [(o, .inl (cJ, 1, .inr (.inl (vp_updL g 0 ((gOf gp gi am Lo Se Ef dl σ z0 m9)).toInt64))))]) ++ wM cI cZ y Lo Se Em gp gi am li dl (rK u2) (rT u2) (rE u2) (rD u2) (rF u2) (rS u2) (rC u2) Hm (nI 0)) H := hP
  have hD : va_D A ((wC cI cZ cO x a t b ck Ho (sT σ) (sE σ) (sD σ) (sF σ) (sS σ) (sC σ) (sL σ) (sT u) (sE u) (sD u) (sF u) (sS u) (sC u) (sL u) Lo Se Ef gp gi am li dl ++ [(o, .inl (cJ, 1, .inr (.inl (vp_updL g 0 ((gOf gp gi am Lo Se Ef dl σ z0 m9)).toInt64))))]) ++ wM cI cZ y Lo Se Em gp gi am li dl (rK u2) (rT u2) (rE u2) (rD u2) (rF u2) (rS u2) (rC u2) Hm (nI 0)) := hD
  refine lv_iload hx hb dL_law_1071 (lv_at hl 1 rfl) ?_
  refine lv_icmp_eq (tgt := 1078) hx hb dL_law_1073 (by decide) (fun _ => ?_) (fun c9 => absurd rfl c9)
  refine lv_iload hx hb dL_law_1078 (lv_at hl 1 rfl) ?_
  refine lv_if_ne (tgt := 1095) hx hb dL_law_1080 (by decide) (fun c9 => absurd rfl c9) (fun _ => ?_)
  refine lv_aload_n hx hb dL_law_1083 rfl (lv_at hl 5 rfl) ?_
  refine lv_iconst (v := nI 0) hx hb dL_law_1084 (by decide +kernel) ?_
  refine k_laldS hx hb hK 3 rfl hP dL_law_1085 ?_
  refine lv_iload hx hb dL_law_1086 (lv_at hl 0 rfl) ?_
  refine lv_i2l hx hb dL_law_1088 rfl ?_
  refine k_lcmp0 (pk_uLs.trans (congrArg Int32.toInt64 rfl)) hx hb dL_law_1089 ?_
  refine lv_if_eq (tgt := 1095) hx hb dL_law_1090 (by decide) (fun _ => ?_) (fun c9 => absurd rfl c9)
  refine lv_goto (tgt := 1234) hx hb dL_law_1095 (by decide) ?_
  refine lv_iinc (v := nI (i + 4)) (lv' := [(4, .int (nI (i + 4))), (6, .int (gOf gp gi am Lo Se Ef dl σ z0 m9)), (5, .int (nI 0)), (0, .ref bs), (1, .ref (x 0)), (2, .ref (y 0)), (3, .ref o)]) hx hb dL_law_1234 hl (k := 6) rfl (nI_add _ 4) (by decide) rfl (fun ls hl => ?_)
  refine lv_goto (tgt := 23) hx hb dL_law_1237 (by decide) ?_
  refine W.widen (k := cl + 1) (n := sl + 6) (by omega) (by omega) ?_
  exact kk σ u u2 ck Ho Hm Lo Se Em Ef gp gi am li dl _ _ (LI_same hI hu) H locs hP hD hS ls (lv_sub hl [3, 4, 5, 6, 0] rfl)

set_option maxHeartbeats 4000000 in
set_option maxRecDepth 100000 in
theorem lb_expected_bad (h : ¬ (inR (xs (i + 1)) (nI 0) (nI 5) ∧ inR (xs (i + 2)) (nI 1) (nI 60))) (h0 : LC p l s m args c D cI cZ cO cJ bs L xs A) (hi : i + 4 ≤ L) (hcl : cl + 1 ≤ 653765) (hsl : sl + 6 ≤ 7134809) (hI : LI σ μ ck Ho Hm Lo Se Em Ef gp gi am dl) (hP : va_P D vwCl (wL cI cZ cO cJ x a t b y o σ ρ μ ck Ho Hm Lo Se Em Ef gp gi am li dl g th) H) (hD : va_D A (wL cI cZ cO cJ x a t b y o σ ρ μ ck Ho Hm Lo Se Em Ef gp gi am li dl g th)) (hS : va_S A s.heap H locs) (hl : lv_has ls 7 [(0, .ref bs), (1, .ref (x 0)), (2, .ref (y 0)), (3, .ref o), (4, .int (nI i))]) (kk : Hd p l e s m args below meth c D cI cZ cO cJ x a t b y o bs A Q (i + 4) (cl + 1) (sl + 6)) : W p l e room_1 s m args below meth c H locs cl sl Q (F0 m 1030 ls []) := by
  obtain ⟨hx, hb, hml, hts, hown, hK, hN, hX, hC, hA, hsc, hbl, hbA, hst, hL⟩ := h0
  refine lv_aload_n hx hb dL_law_1030 rfl (lv_at hl 1 rfl) ?_
  refine lv_aload_n hx hb dL_law_1031 rfl (lv_at hl 0 rfl) ?_
  refine lv_iload hx hb dL_law_1032 (lv_at hl 4 rfl) ?_
  refine lv_iconst (v := nI 1) hx hb dL_law_1034 (by decide +kernel) ?_
  refine lv_iadd hx hb dL_law_1035 ?_
  refine k_as (nI_add _ _) ?_
  refine k_sld hx hb hsc hbl hbA hS (v := xs (i + 1)) (by omega) hL rfl dL_law_1036 ?_
  refine lv_aload_n hx hb dL_law_1037 rfl (lv_at hl 0 rfl) ?_
  refine lv_iload hx hb dL_law_1038 (lv_at hl 4 rfl) ?_
  refine lv_iconst (v := nI 2) hx hb dL_law_1040 (by decide +kernel) ?_
  refine lv_iadd hx hb dL_law_1041 ?_
  refine k_as (nI_add _ _) ?_
  refine k_sld hx hb hsc hbl hbA hS (v := xs (i + 2)) (by omega) hL rfl dL_law_1042 ?_
  refine lv_aload_n hx hb dL_law_1043 rfl (lv_at hl 3 rfl) ?_
  refine kCallP_i (mc := 1) (ms := 6) (W1 := fun _ : Unit => wC cI cZ cO x a t b ck Ho (sT σ) (sE σ) (sD σ) (sF σ) (sS σ) (sC σ) (sL σ) (sT ρ) (sE ρ) (sD ρ) (sF ρ) (sS ρ) (sC ρ) (sL ρ) Lo Se Ef gp gi am li dl ++ [(o, .inl (cJ, 1, .inr (.inl g)))]) (fun _ _ h => h) hP hD hS hA (fun _ => rfl) (vx_runSW (As := [.ref (x 0), .int (xs (i + 1)), .int (xs (i + 2)), .ref o]) (rest := []) ⟨hx, hb, hml, hown, hts⟩ (c_L_expected_bad l hst D cI cZ cO cJ x a t b ck Ho (sT σ) (sE σ) (sD σ) (sF σ) (sS σ) (sC σ) (sL σ) (sT ρ) (sE ρ) (sD ρ) (sF ρ) (sS ρ) (sC ρ) (sL ρ) Lo Se Ef gp gi am li dl (xs (i + 1)) (xs (i + 2)) o g H.size h) (vx_cwSW (rm := rxL_expected) 4 hts gL_law_L_expected rfl rfl rfl (by decide +kernel) ⟨Nat.le_of_ble_eq_true rfl, Nat.le_of_ble_eq_true rfl⟩) (kPreSHW hK hN hX hC (pfP hP) (pfD hD) hS (kfree (pfD hD) hS hA)) rfl rfl hl.1 rfl (lv_room (Nat.le_of_ble_eq_true rfl)) dL_law_1044 ⟨by show _ ≤ 653765; omega, by show _ ≤ 7134809; omega⟩) (fun r9 u H locs hr9 hP hD hS => ?_)
  subst hr9
  have hP : va_P D vwCl ((wC cI cZ cO x a t b ck Ho (sT σ) (sE σ) (sD σ) (sF σ) (sS σ) (sC σ) (sL σ) (sT ρ) (sE ρ) (sD ρ) (sF ρ) (sS ρ) (sC ρ) (sL ρ) Lo Se Ef gp gi am li dl ++ [(o, .inl (cJ, 1, .inr (.inl g)))]) ++ wM cI cZ y Lo Se Em gp gi am li dl (rK μ) (rT μ) (rE μ) (rD μ) (rF μ) (rS μ) (rC μ) Hm th) H := hP
  have hD : va_D A ((wC cI cZ cO x a t b ck Ho (sT σ) (sE σ) (sD σ) (sF σ) (sS σ) (sC σ) (sL σ) (sT ρ) (sE ρ) (sD ρ) (sF ρ) (sS ρ) (sC ρ) (sL ρ) Lo Se Ef gp gi am li dl ++ [(o, .inl (cJ, 1, .inr (.inl g)))]) ++ wM cI cZ y Lo Se Em gp gi am li dl (rK μ) (rT μ) (rE μ) (rD μ) (rF μ) (rS μ) (rC μ) Hm th) := hD
  refine lv_istore (lv' := [(5, .int (nI 1)), (0, .ref bs), (1, .ref (x 0)), (2, .ref (y 0)), (3, .ref o), (4, .int (nI i))]) hx hb dL_law_1047 hl (by decide) rfl (fun ls hl => ?_)
  refine lv_aload_n hx hb dL_law_1049 rfl (lv_at hl 3 rfl) ?_
  refine lv_aload_n hx hb dL_law_1050 rfl (lv_at hl 1 rfl) ?_
  refine lv_iload hx hb dL_law_1051 (lv_at hl 5 rfl) ?_
  refine lv_iconst (v := nI 1) hx hb dL_law_1053 (by decide +kernel) ?_
  refine lv_iadd hx hb dL_law_1054 ?_
  refine k_as (nI_add _ _) ?_
  refine k_sld hx hb hsc hbl hbA hS (v := xs (i + 1)) (by omega) hL rfl dL_law_1055 ?_
  refine lv_aload_n hx hb dL_law_1056 rfl (lv_at hl 1 rfl) ?_
  refine lv_iload hx hb dL_law_1057 (lv_at hl 5 rfl) ?_
  refine lv_iconst (v := nI 2) hx hb dL_law_1059 (by decide +kernel) ?_
  refine lv_iadd hx hb dL_law_1060 ?_
  refine k_as (nI_add _ _) ?_
  refine k_sld hx hb hsc hbl hbA hS (v := xs (i + 2)) (by omega) hL rfl dL_law_1061 ?_
  refine kCallS_i (mc := 0) (ms := 0) (W1 := fun _ : Unit => wM cI cZ y Lo Se Em gp gi am li dl (rK μ) (rT μ) (rE μ) (rD μ) (rF μ) (rS μ) (rC μ) Hm (nI 1)) (fun _ _ h => h) hP hD hS hA (fun _ => rfl) (va_runV (As := [.int (xs (i + 1)), .int (xs (i + 2))]) (rest := []) ⟨hx, hb, hml, hown, hts⟩ (c_X3_expected_bad l D cI cZ cO cJ y Lo Se Em gp gi am li dl (rK μ) (rT μ) (rE μ) (rD μ) (rF μ) (rS μ) (rC μ) Hm th (xs (i + 1)) (xs (i + 2)) H.size h) (cwV (rm := rmX3_expected) 2 hts gL_law_X3_expected rfl rfl rfl (by decide +kernel) ⟨Nat.le_of_ble_eq_true rfl, Nat.le_of_ble_eq_true rfl⟩) (kPreVW hK hN (sfP hP) (sfD hD) (va_recv hK (sfP hP) (ci := 3) (q0 := 0) rfl rfl)) rfl rfl hl.1 rfl (lv_room (Nat.le_of_ble_eq_true rfl)) dL_law_1062 ⟨by show _ ≤ 653765; omega, by show _ ≤ 7134809; omega⟩) (fun r9 u2 H locs hr9 hP hD hS => ?_)
  subst hr9
  have hP : va_P D vwCl ((wC cI cZ cO x a t b ck Ho (sT σ) (sE σ) (sD σ) (sF σ) (sS σ) (sC σ) (sL σ) (sT ρ) (sE ρ) (sD ρ) (sF ρ) (sS ρ) (sC ρ) (sL ρ) Lo Se Ef gp gi am li dl ++ [(o, .inl (cJ, 1, .inr (.inl g)))]) ++ wM cI cZ y Lo Se Em gp gi am li dl (rK μ) (rT μ) (rE μ) (rD μ) (rF μ) (rS μ) (rC μ) Hm (nI 1)) H := hP
  have hD : va_D A ((wC cI cZ cO x a t b ck Ho (sT σ) (sE σ) (sD σ) (sF σ) (sS σ) (sC σ) (sL σ) (sT ρ) (sE ρ) (sD ρ) (sF ρ) (sS ρ) (sC ρ) (sL ρ) Lo Se Ef gp gi am li dl ++ [(o, .inl (cJ, 1, .inr (.inl g)))]) ++ wM cI cZ y Lo Se Em gp gi am li dl (rK μ) (rT μ) (rE μ) (rD μ) (rF μ) (rS μ) (rC μ) Hm (nI 1)) := hD
  refine lv_istore (lv' := [(6, .int (nI 0)), (5, .int (nI 1)), (0, .ref bs), (1, .ref (x 0)), (2, .ref (y 0)), (3, .ref o), (4, .int (nI i))]) hx hb dL_law_1065 hl (by decide) rfl (fun ls hl => ?_)
  refine lv_aload_n hx hb dL_law_1067 rfl (lv_at hl 4 rfl) ?_
  refine kCallS_i (mc := 0) (ms := 0) (W1 := fun _ : Unit => wM cI cZ y Lo Se Em gp gi am li dl (rK μ) (rT μ) (rE μ) (rD μ) (rF μ) (rS μ) (rC μ) Hm (nI 1)) (fun _ _ h => h) hP hD hS hA (fun _ => rfl) (va_runV (As := []) (rest := []) ⟨hx, hb, hml, hown, hts⟩ (c_X3_thrown l D cI cZ cO cJ y Lo Se Em gp gi am li dl (rK μ) (rT μ) (rE μ) (rD μ) (rF μ) (rS μ) (rC μ) Hm (nI 1) H.size) (cwV (rm := rmX3_thrown) 0 hts gL_law_X3_thrown rfl rfl rfl (by decide +kernel) ⟨Nat.le_of_ble_eq_true rfl, Nat.le_of_ble_eq_true rfl⟩) (kPreVW hK hN (sfP hP) (sfD hD) (va_recv hK (sfP hP) (ci := 3) (q0 := 0) rfl rfl)) rfl rfl hl.1 rfl (lv_room (Nat.le_of_ble_eq_true rfl)) dL_law_1068 ⟨by show _ ≤ 653765; omega, by show _ ≤ 7134809; omega⟩) (fun r9 u3 H locs hr9 hP hD hS => ?_)
  subst hr9
  have hP : va_P D vwCl ((wC cI cZ cO x a t b ck Ho (sT σ) (sE σ) (sD σ) (sF σ) (sS σ) (sC σ) (sL σ) (sT ρ) (sE ρ) (sD ρ) (sF ρ) (sS ρ) (sC ρ) (sL ρ) Lo Se Ef gp gi am li dl ++ [(o, .inl (cJ, 1, .inr (.inl g)))]) ++ wM cI cZ y Lo Se Em gp gi am li dl (rK μ) (rT μ) (rE μ) (rD μ) (rF μ) (rS μ) (rC μ) Hm (nI 1)) H := hP
  have hD : va_D A ((wC cI cZ cO x a t b ck Ho (sT σ) (sE σ) (sD σ) (sF σ) (sS σ) (sC σ) (sL σ) (sT ρ) (sE ρ) (sD ρ) (sF ρ) (sS ρ) (sC ρ) (sL ρ) Lo Se Ef gp gi am li dl ++ [(o, .inl (cJ, 1, .inr (.inl g)))]) ++ wM cI cZ y Lo Se Em gp gi am li dl (rK μ) (rT μ) (rE μ) (rD μ) (rF μ) (rS μ) (rC μ) Hm (nI 1)) := hD
  refine lv_iload hx hb dL_law_1071 (lv_at hl 1 rfl) ?_
  refine lv_icmp_eq (tgt := 1078) hx hb dL_law_1073 (by decide) (fun _ => ?_) (fun c9 => absurd rfl c9)
  refine lv_iload hx hb dL_law_1078 (lv_at hl 1 rfl) ?_
  refine lv_if_ne (tgt := 1095) hx hb dL_law_1080 (by decide) (fun _ => ?_) (fun c9 => absurd c9 (by decide))
  refine lv_goto (tgt := 1234) hx hb dL_law_1095 (by decide) ?_
  refine lv_iinc (v := nI (i + 4)) (lv' := [(4, .int (nI (i + 4))), (6, .int (nI 0)), (5, .int (nI 1)), (0, .ref bs), (1, .ref (x 0)), (2, .ref (y 0)), (3, .ref o)]) hx hb dL_law_1234 hl (k := 6) rfl (nI_add _ 4) (by decide) rfl (fun ls hl => ?_)
  refine lv_goto (tgt := 23) hx hb dL_law_1237 (by decide) ?_
  refine W.widen (k := cl + 1) (n := sl + 6) (by omega) (by omega) ?_
  exact kk σ ρ μ ck Ho Hm Lo Se Em Ef gp gi am li dl _ _ hI H locs hP hD hS ls (lv_sub hl [3, 4, 5, 6, 0] rfl)

set_option maxHeartbeats 4000000 in
set_option maxRecDepth 100000 in
theorem lb_critical_ok (z0 m9 : Nat) (e1 : xs (i + 1) = nI z0) (e2 : xs (i + 2) = nI (m9 + 1)) (hz0 : z0 < 6) (hm : m9 < 60) (h0 : LC p l s m args c D cI cZ cO cJ bs L xs A) (hi : i + 4 ≤ L) (hcl : cl + 1 ≤ 653765) (hsl : sl + 6 ≤ 7134809) (hI : LI σ μ ck Ho Hm Lo Se Em Ef gp gi am dl) (hP : va_P D vwCl (wL cI cZ cO cJ x a t b y o σ ρ μ ck Ho Hm Lo Se Em Ef gp gi am li dl g th) H) (hD : va_D A (wL cI cZ cO cJ x a t b y o σ ρ μ ck Ho Hm Lo Se Em Ef gp gi am li dl g th)) (hS : va_S A s.heap H locs) (hl : lv_has ls 7 [(0, .ref bs), (1, .ref (x 0)), (2, .ref (y 0)), (3, .ref o), (4, .int (nI i))]) (kk : Hd p l e s m args below meth c D cI cZ cO cJ x a t b y o bs A Q (i + 4) (cl + 1) (sl + 6)) : W p l e room_1 s m args below meth c H locs cl sl Q (F0 m 1098 ls []) := by
  obtain ⟨hx, hb, hml, hts, hown, hK, hN, hX, hC, hA, hsc, hbl, hbA, hst, hL⟩ := h0
  refine lv_aload_n hx hb dL_law_1098 rfl (lv_at hl 1 rfl) ?_
  refine lv_aload_n hx hb dL_law_1099 rfl (lv_at hl 0 rfl) ?_
  refine lv_iload hx hb dL_law_1100 (lv_at hl 4 rfl) ?_
  refine lv_iconst (v := nI 1) hx hb dL_law_1102 (by decide +kernel) ?_
  refine lv_iadd hx hb dL_law_1103 ?_
  refine k_as (nI_add _ _) ?_
  refine k_sld hx hb hsc hbl hbA hS (v := nI z0) (by omega) hL e1 dL_law_1104 ?_
  refine lv_aload_n hx hb dL_law_1105 rfl (lv_at hl 0 rfl) ?_
  refine lv_iload hx hb dL_law_1106 (lv_at hl 4 rfl) ?_
  refine lv_iconst (v := nI 2) hx hb dL_law_1108 (by decide +kernel) ?_
  refine lv_iadd hx hb dL_law_1109 ?_
  refine k_as (nI_add _ _) ?_
  refine k_sld hx hb hsc hbl hbA hS (v := nI (m9 + 1)) (by omega) hL e2 dL_law_1110 ?_
  refine lv_aload_n hx hb dL_law_1111 rfl (lv_at hl 3 rfl) ?_
  refine kCallP_i (mc := 0) (ms := 0) (W1 := fun u : HS => wC cI cZ cO x a t b ck Ho (sT σ) (sE σ) (sD σ) (sF σ) (sS σ) (sC σ) (sL σ) (sT u) (sE u) (sD u) (sF u) (sS u) (sC u) (sL u) Lo Se Ef gp gi am li dl ++ [(o, .inl (cJ, 1, .inr (.inl (vp_updL g 0 (((crit (sF σ) (fun f => gOf gp gi am Lo Se Ef dl (hFail σ f) z0 m9) 8).1)).toInt64))))]) (fun _ _ h => h) hP hD hS hA (fun _ => rfl) (vx_runSW (As := [.ref (x 0), .int (nI z0), .int (nI (m9 + 1)), .ref o]) (rest := []) ⟨hx, hb, hml, hown, hts⟩ (c_L_critical l D cI cZ cO cJ x a t b ck Ho σ (sT ρ) (sE ρ) (sD ρ) (sF ρ) (sS ρ) (sC ρ) (sL ρ) Lo Se Ef gp gi am li dl z0 m9 o g H.size hz0 hm (LI_la hI) hI.2.1.2.2.2.2.2.2.1 (LI_F hI)) (vx_cwSW (rm := rmL_critical) 4 hts gL_law_L_critical rfl rfl rfl (by decide +kernel) ⟨Nat.le_of_ble_eq_true rfl, Nat.le_of_ble_eq_true rfl⟩) (kPreSHW hK hN hX hC (pfP hP) (pfD hD) hS (kfree (pfD hD) hS hA)) rfl rfl hl.1 rfl (lv_room (Nat.le_of_ble_eq_true rfl)) dL_law_1112 ⟨by show _ ≤ 653765; omega, by show _ ≤ 7134809; omega⟩) (fun r9 u H locs hr9 hP hD hS => ?_)
  subst hr9
  have hP : va_P D vwCl ((wC cI cZ cO x a t b ck Ho (sT σ) (sE σ) (sD σ) (sF σ) (sS σ) (sC σ) (sL σ) (sT u) (sE u) (sD u) (sF u) (sS u) (sC u) (sL u) Lo Se Ef gp gi am li dl ++ [(o, .inl (cJ, 1, .inr (.inl (vp_updL g 0 (((crit (sF σ) (fun f => gOf gp gi am Lo Se Ef dl (hFail σ f) z0 m9) 8).1)).toInt64))))]) ++ wM cI cZ y Lo Se Em gp gi am li dl (rK μ) (rT μ) (rE μ) (rD μ) (rF μ) (rS μ) (rC μ) Hm th) H := hP
  have hD : va_D A ((wC cI cZ cO x a t b ck Ho (sT σ) (sE σ) (sD σ) (sF σ) (sS σ) (sC σ) (sL σ) (sT u) (sE u) (sD u) (sF u) (sS u) (sC u) (sL u) Lo Se Ef gp gi am li dl ++ [(o, .inl (cJ, 1, .inr (.inl (vp_updL g 0 (((crit (sF σ) (fun f => gOf gp gi am Lo Se Ef dl (hFail σ f) z0 m9) 8).1)).toInt64))))]) ++ wM cI cZ y Lo Se Em gp gi am li dl (rK μ) (rT μ) (rE μ) (rD μ) (rF μ) (rS μ) (rC μ) Hm th) := hD
  refine lv_istore (lv' := [(5, .int (nI 0)), (0, .ref bs), (1, .ref (x 0)), (2, .ref (y 0)), (3, .ref o), (4, .int (nI i))]) hx hb dL_law_1115 hl (by decide) rfl (fun ls hl => ?_)
  refine lv_aload_n hx hb dL_law_1117 rfl (lv_at hl 3 rfl) ?_
  refine lv_aload_n hx hb dL_law_1118 rfl (lv_at hl 1 rfl) ?_
  refine lv_iload hx hb dL_law_1119 (lv_at hl 5 rfl) ?_
  refine lv_iconst (v := nI 1) hx hb dL_law_1121 (by decide +kernel) ?_
  refine lv_iadd hx hb dL_law_1122 ?_
  refine k_as (nI_add _ _) ?_
  refine k_sld hx hb hsc hbl hbA hS (v := nI z0) (by omega) hL e1 dL_law_1123 ?_
  refine lv_aload_n hx hb dL_law_1124 rfl (lv_at hl 1 rfl) ?_
  refine lv_iload hx hb dL_law_1125 (lv_at hl 5 rfl) ?_
  refine lv_iconst (v := nI 2) hx hb dL_law_1127 (by decide +kernel) ?_
  refine lv_iadd hx hb dL_law_1128 ?_
  refine k_as (nI_add _ _) ?_
  refine k_sld hx hb hsc hbl hbA hS (v := nI (m9 + 1)) (by omega) hL e2 dL_law_1129 ?_
  refine kCallS_i (mc := 0) (ms := 0) (W1 := fun u2 : MS => wM cI cZ y Lo Se Em gp gi am li dl (rK u2) (rT u2) (rE u2) (rD u2) (rF u2) (rS u2) (rC u2) Hm (nI 0)) (fun _ _ h => h) hP hD hS hA (fun _ => rfl) (va_runV (As := [.int (nI z0), .int (nI (m9 + 1))]) (rest := []) ⟨hx, hb, hml, hown, hts⟩ (c_X3_critical_ok l D cI cZ cO cJ y Lo Se Em gp gi am li dl μ Hm th Ef σ z0 m9 H.size hI.2.1 hI.1 (by rw [hI.2.2.1]; exact hI.2.2.2.1) hz0 hm) (cwV (rm := rmX3_critical) 2 hts gL_law_X3_critical rfl rfl rfl (by decide +kernel) ⟨Nat.le_of_ble_eq_true rfl, Nat.le_of_ble_eq_true rfl⟩) (kPreVW hK hN (sfP hP) (sfD hD) (va_recv hK (sfP hP) (ci := 3) (q0 := 0) rfl rfl)) rfl rfl hl.1 rfl (lv_room (Nat.le_of_ble_eq_true rfl)) dL_law_1130 ⟨by show _ ≤ 653765; omega, by show _ ≤ 7134809; omega⟩) (fun r9 u2 H locs hr9 hP hD hS => ?_)
  obtain ⟨hr9, hu⟩ := hr9
  subst hr9
  have hP : va_P D vwCl ((wC cI cZ cO x a t b ck Ho (sT σ) (sE σ) (sD σ) (sF σ) (sS σ) (sC σ) (sL σ) (sT u) (sE u) (sD u) (sF u) (sS u) (sC u) (sL u) Lo Se Ef gp gi am li dl ++ [(o, .inl (cJ, 1, .inr (.inl (vp_updL g 0 (((crit (sF σ) (fun f => gOf gp gi am Lo Se Ef dl (hFail σ f) z0 m9) 8).1)).toInt64))))]) ++ wM cI cZ y Lo Se Em gp gi am li dl (rK u2) (rT u2) (rE u2) (rD u2) (rF u2) (rS u2) (rC u2) Hm (nI 0)) H := hP
  have hD : va_D A ((wC cI cZ cO x a t b ck Ho (sT σ) (sE σ) (sD σ) (sF σ) (sS σ) (sC σ) (sL σ) (sT u) (sE u) (sD u) (sF u) (sS u) (sC u) (sL u) Lo Se Ef gp gi am li dl ++ [(o, .inl (cJ, 1, .inr (.inl (vp_updL g 0 (((crit (sF σ) (fun f => gOf gp gi am Lo Se Ef dl (hFail σ f) z0 m9) 8).1)).toInt64))))]) ++ wM cI cZ y Lo Se Em gp gi am li dl (rK u2) (rT u2) (rE u2) (rD u2) (rF u2) (rS u2) (rC u2) Hm (nI 0)) := hD
  refine lv_istore (lv' := [(6, .int ((crit (sF σ) (fun f => gOf gp gi am Lo Se Ef dl (hFail σ f) z0 m9) 8).1)), (5, .int (nI 0)), (0, .ref bs), (1, .ref (x 0)), (2, .ref (y 0)), (3, .ref o), (4, .int (nI i))]) hx hb dL_law_1133 hl (by decide) rfl (fun ls hl => ?_)
  refine lv_aload_n hx hb dL_law_1135 rfl (lv_at hl 4 rfl) ?_
  refine kCallS_i (mc := 0) (ms := 0) (W1 := fun _ : Unit => wM cI cZ y Lo Se Em gp gi am li dl (rK u2) (rT u2) (rE u2) (rD u2) (rF u2) (rS u2) (rC u2) Hm (nI 0)) (fun _ _ h => h) hP hD hS hA (fun _ => rfl) (va_runV (As := []) (rest := []) ⟨hx, hb, hml, hown, hts⟩ (c_X3_thrown l D cI cZ cO cJ y Lo Se Em gp gi am li dl (rK u2) (rT u2) (rE u2) (rD u2) (rF u2) (rS u2) (rC u2) Hm (nI 0) H.size) (cwV (rm := rmX3_thrown) 0 hts gL_law_X3_thrown rfl rfl rfl (by decide +kernel) ⟨Nat.le_of_ble_eq_true rfl, Nat.le_of_ble_eq_true rfl⟩) (kPreVW hK hN (sfP hP) (sfD hD) (va_recv hK (sfP hP) (ci := 3) (q0 := 0) rfl rfl)) rfl rfl hl.1 rfl (lv_room (Nat.le_of_ble_eq_true rfl)) dL_law_1136 ⟨by show _ ≤ 653765; omega, by show _ ≤ 7134809; omega⟩) (fun r9 u3 H locs hr9 hP hD hS => ?_)
  subst hr9
  have hP : va_P D vwCl ((wC cI cZ cO x a t b ck Ho (sT σ) (sE σ) (sD σ) (sF σ) (sS σ) (sC σ) (sL σ) (sT u) (sE u) (sD u) (sF u) (sS u) (sC u) (sL u) Lo Se Ef gp gi am li dl ++ [(o, .inl (cJ, 1, .inr (.inl (vp_updL g 0 (((crit (sF σ) (fun f => gOf gp gi am Lo Se Ef dl (hFail σ f) z0 m9) 8).1)).toInt64))))]) ++ wM cI cZ y Lo Se Em gp gi am li dl (rK u2) (rT u2) (rE u2) (rD u2) (rF u2) (rS u2) (rC u2) Hm (nI 0)) H := hP
  have hD : va_D A ((wC cI cZ cO x a t b ck Ho (sT σ) (sE σ) (sD σ) (sF σ) (sS σ) (sC σ) (sL σ) (sT u) (sE u) (sD u) (sF u) (sS u) (sC u) (sL u) Lo Se Ef gp gi am li dl ++ [(o, .inl (cJ, 1, .inr (.inl (vp_updL g 0 (((crit (sF σ) (fun f => gOf gp gi am Lo Se Ef dl (hFail σ f) z0 m9) 8).1)).toInt64))))]) ++ wM cI cZ y Lo Se Em gp gi am li dl (rK u2) (rT u2) (rE u2) (rD u2) (rF u2) (rS u2) (rC u2) Hm (nI 0)) := hD
  refine lv_iload hx hb dL_law_1139 (lv_at hl 1 rfl) ?_
  refine lv_icmp_eq (tgt := 1146) hx hb dL_law_1141 (by decide) (fun _ => ?_) (fun c9 => absurd rfl c9)
  refine lv_iload hx hb dL_law_1146 (lv_at hl 1 rfl) ?_
  refine lv_if_ne (tgt := 1163) hx hb dL_law_1148 (by decide) (fun c9 => absurd rfl c9) (fun _ => ?_)
  refine lv_aload_n hx hb dL_law_1151 rfl (lv_at hl 5 rfl) ?_
  refine lv_iconst (v := nI 0) hx hb dL_law_1152 (by decide +kernel) ?_
  refine k_laldS hx hb hK 3 rfl hP dL_law_1153 ?_
  refine lv_iload hx hb dL_law_1154 (lv_at hl 0 rfl) ?_
  refine lv_i2l hx hb dL_law_1156 rfl ?_
  refine k_lcmp0 (pk_uLs.trans (congrArg Int32.toInt64 rfl)) hx hb dL_law_1157 ?_
  refine lv_if_eq (tgt := 1163) hx hb dL_law_1158 (by decide) (fun _ => ?_) (fun c9 => absurd rfl c9)
  refine lv_goto (tgt := 1234) hx hb dL_law_1163 (by decide) ?_
  refine lv_iinc (v := nI (i + 4)) (lv' := [(4, .int (nI (i + 4))), (6, .int ((crit (sF σ) (fun f => gOf gp gi am Lo Se Ef dl (hFail σ f) z0 m9) 8).1)), (5, .int (nI 0)), (0, .ref bs), (1, .ref (x 0)), (2, .ref (y 0)), (3, .ref o)]) hx hb dL_law_1234 hl (k := 6) rfl (nI_add _ 4) (by decide) rfl (fun ls hl => ?_)
  refine lv_goto (tgt := 23) hx hb dL_law_1237 (by decide) ?_
  refine W.widen (k := cl + 1) (n := sl + 6) (by omega) (by omega) ?_
  exact kk σ u u2 ck Ho Hm Lo Se Em Ef gp gi am li dl _ _ (LI_same hI hu) H locs hP hD hS ls (lv_sub hl [3, 4, 5, 6, 0] rfl)

set_option maxHeartbeats 4000000 in
set_option maxRecDepth 100000 in
theorem lb_critical_bad (h : ¬ (inR (xs (i + 1)) (nI 0) (nI 5) ∧ inR (xs (i + 2)) (nI 1) (nI 60))) (h0 : LC p l s m args c D cI cZ cO cJ bs L xs A) (hi : i + 4 ≤ L) (hcl : cl + 1 ≤ 653765) (hsl : sl + 6 ≤ 7134809) (hI : LI σ μ ck Ho Hm Lo Se Em Ef gp gi am dl) (hP : va_P D vwCl (wL cI cZ cO cJ x a t b y o σ ρ μ ck Ho Hm Lo Se Em Ef gp gi am li dl g th) H) (hD : va_D A (wL cI cZ cO cJ x a t b y o σ ρ μ ck Ho Hm Lo Se Em Ef gp gi am li dl g th)) (hS : va_S A s.heap H locs) (hl : lv_has ls 7 [(0, .ref bs), (1, .ref (x 0)), (2, .ref (y 0)), (3, .ref o), (4, .int (nI i))]) (kk : Hd p l e s m args below meth c D cI cZ cO cJ x a t b y o bs A Q (i + 4) (cl + 1) (sl + 6)) : W p l e room_1 s m args below meth c H locs cl sl Q (F0 m 1098 ls []) := by
  obtain ⟨hx, hb, hml, hts, hown, hK, hN, hX, hC, hA, hsc, hbl, hbA, hst, hL⟩ := h0
  refine lv_aload_n hx hb dL_law_1098 rfl (lv_at hl 1 rfl) ?_
  refine lv_aload_n hx hb dL_law_1099 rfl (lv_at hl 0 rfl) ?_
  refine lv_iload hx hb dL_law_1100 (lv_at hl 4 rfl) ?_
  refine lv_iconst (v := nI 1) hx hb dL_law_1102 (by decide +kernel) ?_
  refine lv_iadd hx hb dL_law_1103 ?_
  refine k_as (nI_add _ _) ?_
  refine k_sld hx hb hsc hbl hbA hS (v := xs (i + 1)) (by omega) hL rfl dL_law_1104 ?_
  refine lv_aload_n hx hb dL_law_1105 rfl (lv_at hl 0 rfl) ?_
  refine lv_iload hx hb dL_law_1106 (lv_at hl 4 rfl) ?_
  refine lv_iconst (v := nI 2) hx hb dL_law_1108 (by decide +kernel) ?_
  refine lv_iadd hx hb dL_law_1109 ?_
  refine k_as (nI_add _ _) ?_
  refine k_sld hx hb hsc hbl hbA hS (v := xs (i + 2)) (by omega) hL rfl dL_law_1110 ?_
  refine lv_aload_n hx hb dL_law_1111 rfl (lv_at hl 3 rfl) ?_
  refine kCallP_i (mc := 1) (ms := 6) (W1 := fun _ : Unit => wC cI cZ cO x a t b ck Ho (sT σ) (sE σ) (sD σ) (sF σ) (sS σ) (sC σ) (sL σ) (sT ρ) (sE ρ) (sD ρ) (sF ρ) (sS ρ) (sC ρ) (sL ρ) Lo Se Ef gp gi am li dl ++ [(o, .inl (cJ, 1, .inr (.inl g)))]) (fun _ _ h => h) hP hD hS hA (fun _ => rfl) (vx_runSW (As := [.ref (x 0), .int (xs (i + 1)), .int (xs (i + 2)), .ref o]) (rest := []) ⟨hx, hb, hml, hown, hts⟩ (c_L_critical_bad l hst D cI cZ cO cJ x a t b ck Ho (sT σ) (sE σ) (sD σ) (sF σ) (sS σ) (sC σ) (sL σ) (sT ρ) (sE ρ) (sD ρ) (sF ρ) (sS ρ) (sC ρ) (sL ρ) Lo Se Ef gp gi am li dl (xs (i + 1)) (xs (i + 2)) o g H.size h) (vx_cwSW (rm := rxL_critical) 4 hts gL_law_L_critical rfl rfl rfl (by decide +kernel) ⟨Nat.le_of_ble_eq_true rfl, Nat.le_of_ble_eq_true rfl⟩) (kPreSHW hK hN hX hC (pfP hP) (pfD hD) hS (kfree (pfD hD) hS hA)) rfl rfl hl.1 rfl (lv_room (Nat.le_of_ble_eq_true rfl)) dL_law_1112 ⟨by show _ ≤ 653765; omega, by show _ ≤ 7134809; omega⟩) (fun r9 u H locs hr9 hP hD hS => ?_)
  subst hr9
  have hP : va_P D vwCl ((wC cI cZ cO x a t b ck Ho (sT σ) (sE σ) (sD σ) (sF σ) (sS σ) (sC σ) (sL σ) (sT ρ) (sE ρ) (sD ρ) (sF ρ) (sS ρ) (sC ρ) (sL ρ) Lo Se Ef gp gi am li dl ++ [(o, .inl (cJ, 1, .inr (.inl g)))]) ++ wM cI cZ y Lo Se Em gp gi am li dl (rK μ) (rT μ) (rE μ) (rD μ) (rF μ) (rS μ) (rC μ) Hm th) H := hP
  have hD : va_D A ((wC cI cZ cO x a t b ck Ho (sT σ) (sE σ) (sD σ) (sF σ) (sS σ) (sC σ) (sL σ) (sT ρ) (sE ρ) (sD ρ) (sF ρ) (sS ρ) (sC ρ) (sL ρ) Lo Se Ef gp gi am li dl ++ [(o, .inl (cJ, 1, .inr (.inl g)))]) ++ wM cI cZ y Lo Se Em gp gi am li dl (rK μ) (rT μ) (rE μ) (rD μ) (rF μ) (rS μ) (rC μ) Hm th) := hD
  refine lv_istore (lv' := [(5, .int (nI 1)), (0, .ref bs), (1, .ref (x 0)), (2, .ref (y 0)), (3, .ref o), (4, .int (nI i))]) hx hb dL_law_1115 hl (by decide) rfl (fun ls hl => ?_)
  refine lv_aload_n hx hb dL_law_1117 rfl (lv_at hl 3 rfl) ?_
  refine lv_aload_n hx hb dL_law_1118 rfl (lv_at hl 1 rfl) ?_
  refine lv_iload hx hb dL_law_1119 (lv_at hl 5 rfl) ?_
  refine lv_iconst (v := nI 1) hx hb dL_law_1121 (by decide +kernel) ?_
  refine lv_iadd hx hb dL_law_1122 ?_
  refine k_as (nI_add _ _) ?_
  refine k_sld hx hb hsc hbl hbA hS (v := xs (i + 1)) (by omega) hL rfl dL_law_1123 ?_
  refine lv_aload_n hx hb dL_law_1124 rfl (lv_at hl 1 rfl) ?_
  refine lv_iload hx hb dL_law_1125 (lv_at hl 5 rfl) ?_
  refine lv_iconst (v := nI 2) hx hb dL_law_1127 (by decide +kernel) ?_
  refine lv_iadd hx hb dL_law_1128 ?_
  refine k_as (nI_add _ _) ?_
  refine k_sld hx hb hsc hbl hbA hS (v := xs (i + 2)) (by omega) hL rfl dL_law_1129 ?_
  refine kCallS_i (mc := 0) (ms := 0) (W1 := fun _ : Unit => wM cI cZ y Lo Se Em gp gi am li dl (rK μ) (rT μ) (rE μ) (rD μ) (rF μ) (rS μ) (rC μ) Hm (nI 1)) (fun _ _ h => h) hP hD hS hA (fun _ => rfl) (va_runV (As := [.int (xs (i + 1)), .int (xs (i + 2))]) (rest := []) ⟨hx, hb, hml, hown, hts⟩ (c_X3_critical_bad l D cI cZ cO cJ y Lo Se Em gp gi am li dl (rK μ) (rT μ) (rE μ) (rD μ) (rF μ) (rS μ) (rC μ) Hm th (xs (i + 1)) (xs (i + 2)) H.size h) (cwV (rm := rmX3_critical) 2 hts gL_law_X3_critical rfl rfl rfl (by decide +kernel) ⟨Nat.le_of_ble_eq_true rfl, Nat.le_of_ble_eq_true rfl⟩) (kPreVW hK hN (sfP hP) (sfD hD) (va_recv hK (sfP hP) (ci := 3) (q0 := 0) rfl rfl)) rfl rfl hl.1 rfl (lv_room (Nat.le_of_ble_eq_true rfl)) dL_law_1130 ⟨by show _ ≤ 653765; omega, by show _ ≤ 7134809; omega⟩) (fun r9 u2 H locs hr9 hP hD hS => ?_)
  subst hr9
  have hP : va_P D vwCl ((wC cI cZ cO x a t b ck Ho (sT σ) (sE σ) (sD σ) (sF σ) (sS σ) (sC σ) (sL σ) (sT ρ) (sE ρ) (sD ρ) (sF ρ) (sS ρ) (sC ρ) (sL ρ) Lo Se Ef gp gi am li dl ++ [(o, .inl (cJ, 1, .inr (.inl g)))]) ++ wM cI cZ y Lo Se Em gp gi am li dl (rK μ) (rT μ) (rE μ) (rD μ) (rF μ) (rS μ) (rC μ) Hm (nI 1)) H := hP
  have hD : va_D A ((wC cI cZ cO x a t b ck Ho (sT σ) (sE σ) (sD σ) (sF σ) (sS σ) (sC σ) (sL σ) (sT ρ) (sE ρ) (sD ρ) (sF ρ) (sS ρ) (sC ρ) (sL ρ) Lo Se Ef gp gi am li dl ++ [(o, .inl (cJ, 1, .inr (.inl g)))]) ++ wM cI cZ y Lo Se Em gp gi am li dl (rK μ) (rT μ) (rE μ) (rD μ) (rF μ) (rS μ) (rC μ) Hm (nI 1)) := hD
  refine lv_istore (lv' := [(6, .int (nI 0)), (5, .int (nI 1)), (0, .ref bs), (1, .ref (x 0)), (2, .ref (y 0)), (3, .ref o), (4, .int (nI i))]) hx hb dL_law_1133 hl (by decide) rfl (fun ls hl => ?_)
  refine lv_aload_n hx hb dL_law_1135 rfl (lv_at hl 4 rfl) ?_
  refine kCallS_i (mc := 0) (ms := 0) (W1 := fun _ : Unit => wM cI cZ y Lo Se Em gp gi am li dl (rK μ) (rT μ) (rE μ) (rD μ) (rF μ) (rS μ) (rC μ) Hm (nI 1)) (fun _ _ h => h) hP hD hS hA (fun _ => rfl) (va_runV (As := []) (rest := []) ⟨hx, hb, hml, hown, hts⟩ (c_X3_thrown l D cI cZ cO cJ y Lo Se Em gp gi am li dl (rK μ) (rT μ) (rE μ) (rD μ) (rF μ) (rS μ) (rC μ) Hm (nI 1) H.size) (cwV (rm := rmX3_thrown) 0 hts gL_law_X3_thrown rfl rfl rfl (by decide +kernel) ⟨Nat.le_of_ble_eq_true rfl, Nat.le_of_ble_eq_true rfl⟩) (kPreVW hK hN (sfP hP) (sfD hD) (va_recv hK (sfP hP) (ci := 3) (q0 := 0) rfl rfl)) rfl rfl hl.1 rfl (lv_room (Nat.le_of_ble_eq_true rfl)) dL_law_1136 ⟨by show _ ≤ 653765; omega, by show _ ≤ 7134809; omega⟩) (fun r9 u3 H locs hr9 hP hD hS => ?_)
  subst hr9
  have hP : va_P D vwCl ((wC cI cZ cO x a t b ck Ho (sT σ) (sE σ) (sD σ) (sF σ) (sS σ) (sC σ) (sL σ) (sT ρ) (sE ρ) (sD ρ) (sF ρ) (sS ρ) (sC ρ) (sL ρ) Lo Se Ef gp gi am li dl ++ [(o, .inl (cJ, 1, .inr (.inl g)))]) ++ wM cI cZ y Lo Se Em gp gi am li dl (rK μ) (rT μ) (rE μ) (rD μ) (rF μ) (rS μ) (rC μ) Hm (nI 1)) H := hP
  have hD : va_D A ((wC cI cZ cO x a t b ck Ho (sT σ) (sE σ) (sD σ) (sF σ) (sS σ) (sC σ) (sL σ) (sT ρ) (sE ρ) (sD ρ) (sF ρ) (sS ρ) (sC ρ) (sL ρ) Lo Se Ef gp gi am li dl ++ [(o, .inl (cJ, 1, .inr (.inl g)))]) ++ wM cI cZ y Lo Se Em gp gi am li dl (rK μ) (rT μ) (rE μ) (rD μ) (rF μ) (rS μ) (rC μ) Hm (nI 1)) := hD
  refine lv_iload hx hb dL_law_1139 (lv_at hl 1 rfl) ?_
  refine lv_icmp_eq (tgt := 1146) hx hb dL_law_1141 (by decide) (fun _ => ?_) (fun c9 => absurd rfl c9)
  refine lv_iload hx hb dL_law_1146 (lv_at hl 1 rfl) ?_
  refine lv_if_ne (tgt := 1163) hx hb dL_law_1148 (by decide) (fun _ => ?_) (fun c9 => absurd c9 (by decide))
  refine lv_goto (tgt := 1234) hx hb dL_law_1163 (by decide) ?_
  refine lv_iinc (v := nI (i + 4)) (lv' := [(4, .int (nI (i + 4))), (6, .int (nI 0)), (5, .int (nI 1)), (0, .ref bs), (1, .ref (x 0)), (2, .ref (y 0)), (3, .ref o)]) hx hb dL_law_1234 hl (k := 6) rfl (nI_add _ 4) (by decide) rfl (fun ls hl => ?_)
  refine lv_goto (tgt := 23) hx hb dL_law_1237 (by decide) ?_
  refine W.widen (k := cl + 1) (n := sl + 6) (by omega) (by omega) ?_
  exact kk σ ρ μ ck Ho Hm Lo Se Em Ef gp gi am li dl _ _ hI H locs hP hD hS ls (lv_sub hl [3, 4, 5, 6, 0] rfl)

set_option maxHeartbeats 4000000 in
set_option maxRecDepth 100000 in
theorem lb_margin_ok (z0 m9 : Nat) (e1 : xs (i + 1) = nI z0) (e2 : xs (i + 2) = nI (m9 + 1)) (hz0 : z0 < 6) (hm : m9 < 60) (h0 : LC p l s m args c D cI cZ cO cJ bs L xs A) (hi : i + 4 ≤ L) (hcl : cl + 1 ≤ 653765) (hsl : sl + 6 ≤ 7134809) (hI : LI σ μ ck Ho Hm Lo Se Em Ef gp gi am dl) (hP : va_P D vwCl (wL cI cZ cO cJ x a t b y o σ ρ μ ck Ho Hm Lo Se Em Ef gp gi am li dl g th) H) (hD : va_D A (wL cI cZ cO cJ x a t b y o σ ρ μ ck Ho Hm Lo Se Em Ef gp gi am li dl g th)) (hS : va_S A s.heap H locs) (hl : lv_has ls 7 [(0, .ref bs), (1, .ref (x 0)), (2, .ref (y 0)), (3, .ref o), (4, .int (nI i))]) (kk : Hd p l e s m args below meth c D cI cZ cO cJ x a t b y o bs A Q (i + 4) (cl + 1) (sl + 6)) : W p l e room_1 s m args below meth c H locs cl sl Q (F0 m 1166 ls []) := by
  obtain ⟨hx, hb, hml, hts, hown, hK, hN, hX, hC, hA, hsc, hbl, hbA, hst, hL⟩ := h0
  refine lv_aload_n hx hb dL_law_1166 rfl (lv_at hl 1 rfl) ?_
  refine lv_aload_n hx hb dL_law_1167 rfl (lv_at hl 0 rfl) ?_
  refine lv_iload hx hb dL_law_1168 (lv_at hl 4 rfl) ?_
  refine lv_iconst (v := nI 1) hx hb dL_law_1170 (by decide +kernel) ?_
  refine lv_iadd hx hb dL_law_1171 ?_
  refine k_as (nI_add _ _) ?_
  refine k_sld hx hb hsc hbl hbA hS (v := nI z0) (by omega) hL e1 dL_law_1172 ?_
  refine lv_aload_n hx hb dL_law_1173 rfl (lv_at hl 0 rfl) ?_
  refine lv_iload hx hb dL_law_1174 (lv_at hl 4 rfl) ?_
  refine lv_iconst (v := nI 2) hx hb dL_law_1176 (by decide +kernel) ?_
  refine lv_iadd hx hb dL_law_1177 ?_
  refine k_as (nI_add _ _) ?_
  refine k_sld hx hb hsc hbl hbA hS (v := nI (m9 + 1)) (by omega) hL e2 dL_law_1178 ?_
  refine lv_aload_n hx hb dL_law_1179 rfl (lv_at hl 3 rfl) ?_
  refine kCallP_i (mc := 0) (ms := 0) (W1 := fun u : HS => wC cI cZ cO x a t b ck Ho (sT σ) (sE σ) (sD σ) (sF σ) (sS σ) (sC σ) (sL σ) (sT u) (sE u) (sD u) (sF u) (sS u) (sC u) (sL u) Lo Se Ef gp gi am li dl ++ [(o, .inl (cJ, 1, .inr (.inl (vp_updL g 0 ((li - gAny gp gi am Lo Se Ef dl σ z0 m9 (crit (sF σ) (fun f => gOf gp gi am Lo Se Ef dl (hFail σ f) z0 m9) 8).1)).toInt64))))]) (fun _ _ h => h) hP hD hS hA (fun _ => rfl) (vx_runSW (As := [.ref (x 0), .int (nI z0), .int (nI (m9 + 1)), .ref o]) (rest := []) ⟨hx, hb, hml, hown, hts⟩ (c_L_margin l D cI cZ cO cJ x a t b ck Ho σ (sT ρ) (sE ρ) (sD ρ) (sF ρ) (sS ρ) (sC ρ) (sL ρ) Lo Se Ef gp gi am li dl z0 m9 o g H.size hz0 hm (LI_la hI) hI.2.1.2.2.2.2.2.2.1 (LI_F hI)) (vx_cwSW (rm := rmL_margin) 4 hts gL_law_L_margin rfl rfl rfl (by decide +kernel) ⟨Nat.le_of_ble_eq_true rfl, Nat.le_of_ble_eq_true rfl⟩) (kPreSHW hK hN hX hC (pfP hP) (pfD hD) hS (kfree (pfD hD) hS hA)) rfl rfl hl.1 rfl (lv_room (Nat.le_of_ble_eq_true rfl)) dL_law_1180 ⟨by show _ ≤ 653765; omega, by show _ ≤ 7134809; omega⟩) (fun r9 u H locs hr9 hP hD hS => ?_)
  subst hr9
  have hP : va_P D vwCl ((wC cI cZ cO x a t b ck Ho (sT σ) (sE σ) (sD σ) (sF σ) (sS σ) (sC σ) (sL σ) (sT u) (sE u) (sD u) (sF u) (sS u) (sC u) (sL u) Lo Se Ef gp gi am li dl ++ [(o, .inl (cJ, 1, .inr (.inl (vp_updL g 0 ((li - gAny gp gi am Lo Se Ef dl σ z0 m9 (crit (sF σ) (fun f => gOf gp gi am Lo Se Ef dl (hFail σ f) z0 m9) 8).1)).toInt64))))]) ++ wM cI cZ y Lo Se Em gp gi am li dl (rK μ) (rT μ) (rE μ) (rD μ) (rF μ) (rS μ) (rC μ) Hm th) H := hP
  have hD : va_D A ((wC cI cZ cO x a t b ck Ho (sT σ) (sE σ) (sD σ) (sF σ) (sS σ) (sC σ) (sL σ) (sT u) (sE u) (sD u) (sF u) (sS u) (sC u) (sL u) Lo Se Ef gp gi am li dl ++ [(o, .inl (cJ, 1, .inr (.inl (vp_updL g 0 ((li - gAny gp gi am Lo Se Ef dl σ z0 m9 (crit (sF σ) (fun f => gOf gp gi am Lo Se Ef dl (hFail σ f) z0 m9) 8).1)).toInt64))))]) ++ wM cI cZ y Lo Se Em gp gi am li dl (rK μ) (rT μ) (rE μ) (rD μ) (rF μ) (rS μ) (rC μ) Hm th) := hD
  refine lv_istore (lv' := [(5, .int (nI 0)), (0, .ref bs), (1, .ref (x 0)), (2, .ref (y 0)), (3, .ref o), (4, .int (nI i))]) hx hb dL_law_1183 hl (by decide) rfl (fun ls hl => ?_)
  refine lv_aload_n hx hb dL_law_1185 rfl (lv_at hl 3 rfl) ?_
  refine lv_aload_n hx hb dL_law_1186 rfl (lv_at hl 1 rfl) ?_
  refine lv_iload hx hb dL_law_1187 (lv_at hl 5 rfl) ?_
  refine lv_iconst (v := nI 1) hx hb dL_law_1189 (by decide +kernel) ?_
  refine lv_iadd hx hb dL_law_1190 ?_
  refine k_as (nI_add _ _) ?_
  refine k_sld hx hb hsc hbl hbA hS (v := nI z0) (by omega) hL e1 dL_law_1191 ?_
  refine lv_aload_n hx hb dL_law_1192 rfl (lv_at hl 1 rfl) ?_
  refine lv_iload hx hb dL_law_1193 (lv_at hl 5 rfl) ?_
  refine lv_iconst (v := nI 2) hx hb dL_law_1195 (by decide +kernel) ?_
  refine lv_iadd hx hb dL_law_1196 ?_
  refine k_as (nI_add _ _) ?_
  refine k_sld hx hb hsc hbl hbA hS (v := nI (m9 + 1)) (by omega) hL e2 dL_law_1197 ?_
  refine kCallS_i (mc := 0) (ms := 0) (W1 := fun u2 : MS => wM cI cZ y Lo Se Em gp gi am li dl (rK u2) (rT u2) (rE u2) (rD u2) (rF u2) (rS u2) (rC u2) Hm (nI 0)) (fun _ _ h => h) hP hD hS hA (fun _ => rfl) (va_runV (As := [.int (nI z0), .int (nI (m9 + 1))]) (rest := []) ⟨hx, hb, hml, hown, hts⟩ (c_X3_margin_ok l D cI cZ cO cJ y Lo Se Em gp gi am li dl μ Hm th Ef σ z0 m9 H.size hI.2.1 hI.1 (by rw [hI.2.2.1]; exact hI.2.2.2.1) hz0 hm) (cwV (rm := rmX3_margin) 2 hts gL_law_X3_margin rfl rfl rfl (by decide +kernel) ⟨Nat.le_of_ble_eq_true rfl, Nat.le_of_ble_eq_true rfl⟩) (kPreVW hK hN (sfP hP) (sfD hD) (va_recv hK (sfP hP) (ci := 3) (q0 := 0) rfl rfl)) rfl rfl hl.1 rfl (lv_room (Nat.le_of_ble_eq_true rfl)) dL_law_1198 ⟨by show _ ≤ 653765; omega, by show _ ≤ 7134809; omega⟩) (fun r9 u2 H locs hr9 hP hD hS => ?_)
  obtain ⟨hr9, hu⟩ := hr9
  subst hr9
  have hP : va_P D vwCl ((wC cI cZ cO x a t b ck Ho (sT σ) (sE σ) (sD σ) (sF σ) (sS σ) (sC σ) (sL σ) (sT u) (sE u) (sD u) (sF u) (sS u) (sC u) (sL u) Lo Se Ef gp gi am li dl ++ [(o, .inl (cJ, 1, .inr (.inl (vp_updL g 0 ((li - gAny gp gi am Lo Se Ef dl σ z0 m9 (crit (sF σ) (fun f => gOf gp gi am Lo Se Ef dl (hFail σ f) z0 m9) 8).1)).toInt64))))]) ++ wM cI cZ y Lo Se Em gp gi am li dl (rK u2) (rT u2) (rE u2) (rD u2) (rF u2) (rS u2) (rC u2) Hm (nI 0)) H := hP
  have hD : va_D A ((wC cI cZ cO x a t b ck Ho (sT σ) (sE σ) (sD σ) (sF σ) (sS σ) (sC σ) (sL σ) (sT u) (sE u) (sD u) (sF u) (sS u) (sC u) (sL u) Lo Se Ef gp gi am li dl ++ [(o, .inl (cJ, 1, .inr (.inl (vp_updL g 0 ((li - gAny gp gi am Lo Se Ef dl σ z0 m9 (crit (sF σ) (fun f => gOf gp gi am Lo Se Ef dl (hFail σ f) z0 m9) 8).1)).toInt64))))]) ++ wM cI cZ y Lo Se Em gp gi am li dl (rK u2) (rT u2) (rE u2) (rD u2) (rF u2) (rS u2) (rC u2) Hm (nI 0)) := hD
  refine lv_istore (lv' := [(6, .int (li - gAny gp gi am Lo Se Ef dl σ z0 m9 (crit (sF σ) (fun f => gOf gp gi am Lo Se Ef dl (hFail σ f) z0 m9) 8).1)), (5, .int (nI 0)), (0, .ref bs), (1, .ref (x 0)), (2, .ref (y 0)), (3, .ref o), (4, .int (nI i))]) hx hb dL_law_1201 hl (by decide) rfl (fun ls hl => ?_)
  refine lv_aload_n hx hb dL_law_1203 rfl (lv_at hl 4 rfl) ?_
  refine kCallS_i (mc := 0) (ms := 0) (W1 := fun _ : Unit => wM cI cZ y Lo Se Em gp gi am li dl (rK u2) (rT u2) (rE u2) (rD u2) (rF u2) (rS u2) (rC u2) Hm (nI 0)) (fun _ _ h => h) hP hD hS hA (fun _ => rfl) (va_runV (As := []) (rest := []) ⟨hx, hb, hml, hown, hts⟩ (c_X3_thrown l D cI cZ cO cJ y Lo Se Em gp gi am li dl (rK u2) (rT u2) (rE u2) (rD u2) (rF u2) (rS u2) (rC u2) Hm (nI 0) H.size) (cwV (rm := rmX3_thrown) 0 hts gL_law_X3_thrown rfl rfl rfl (by decide +kernel) ⟨Nat.le_of_ble_eq_true rfl, Nat.le_of_ble_eq_true rfl⟩) (kPreVW hK hN (sfP hP) (sfD hD) (va_recv hK (sfP hP) (ci := 3) (q0 := 0) rfl rfl)) rfl rfl hl.1 rfl (lv_room (Nat.le_of_ble_eq_true rfl)) dL_law_1204 ⟨by show _ ≤ 653765; omega, by show _ ≤ 7134809; omega⟩) (fun r9 u3 H locs hr9 hP hD hS => ?_)
  subst hr9
  have hP : va_P D vwCl ((wC cI cZ cO x a t b ck Ho (sT σ) (sE σ) (sD σ) (sF σ) (sS σ) (sC σ) (sL σ) (sT u) (sE u) (sD u) (sF u) (sS u) (sC u) (sL u) Lo Se Ef gp gi am li dl ++ [(o, .inl (cJ, 1, .inr (.inl (vp_updL g 0 ((li - gAny gp gi am Lo Se Ef dl σ z0 m9 (crit (sF σ) (fun f => gOf gp gi am Lo Se Ef dl (hFail σ f) z0 m9) 8).1)).toInt64))))]) ++ wM cI cZ y Lo Se Em gp gi am li dl (rK u2) (rT u2) (rE u2) (rD u2) (rF u2) (rS u2) (rC u2) Hm (nI 0)) H := hP
  have hD : va_D A ((wC cI cZ cO x a t b ck Ho (sT σ) (sE σ) (sD σ) (sF σ) (sS σ) (sC σ) (sL σ) (sT u) (sE u) (sD u) (sF u) (sS u) (sC u) (sL u) Lo Se Ef gp gi am li dl ++ [(o, .inl (cJ, 1, .inr (.inl (vp_updL g 0 ((li - gAny gp gi am Lo Se Ef dl σ z0 m9 (crit (sF σ) (fun f => gOf gp gi am Lo Se Ef dl (hFail σ f) z0 m9) 8).1)).toInt64))))]) ++ wM cI cZ y Lo Se Em gp gi am li dl (rK u2) (rT u2) (rE u2) (rD u2) (rF u2) (rS u2) (rC u2) Hm (nI 0)) := hD
  refine lv_iload hx hb dL_law_1207 (lv_at hl 1 rfl) ?_
  refine lv_icmp_eq (tgt := 1214) hx hb dL_law_1209 (by decide) (fun _ => ?_) (fun c9 => absurd rfl c9)
  refine lv_iload hx hb dL_law_1214 (lv_at hl 1 rfl) ?_
  refine lv_if_ne (tgt := 1231) hx hb dL_law_1216 (by decide) (fun c9 => absurd rfl c9) (fun _ => ?_)
  refine lv_aload_n hx hb dL_law_1219 rfl (lv_at hl 5 rfl) ?_
  refine lv_iconst (v := nI 0) hx hb dL_law_1220 (by decide +kernel) ?_
  refine k_laldS hx hb hK 3 rfl hP dL_law_1221 ?_
  refine lv_iload hx hb dL_law_1222 (lv_at hl 0 rfl) ?_
  refine lv_i2l hx hb dL_law_1224 rfl ?_
  refine k_lcmp0 (pk_uLs.trans (congrArg Int32.toInt64 rfl)) hx hb dL_law_1225 ?_
  refine lv_if_eq (tgt := 1231) hx hb dL_law_1226 (by decide) (fun _ => ?_) (fun c9 => absurd rfl c9)
  refine lv_goto (tgt := 1234) hx hb dL_law_1231 (by decide) ?_
  refine lv_iinc (v := nI (i + 4)) (lv' := [(4, .int (nI (i + 4))), (6, .int (li - gAny gp gi am Lo Se Ef dl σ z0 m9 (crit (sF σ) (fun f => gOf gp gi am Lo Se Ef dl (hFail σ f) z0 m9) 8).1)), (5, .int (nI 0)), (0, .ref bs), (1, .ref (x 0)), (2, .ref (y 0)), (3, .ref o)]) hx hb dL_law_1234 hl (k := 6) rfl (nI_add _ 4) (by decide) rfl (fun ls hl => ?_)
  refine lv_goto (tgt := 23) hx hb dL_law_1237 (by decide) ?_
  refine W.widen (k := cl + 1) (n := sl + 6) (by omega) (by omega) ?_
  exact kk σ u u2 ck Ho Hm Lo Se Em Ef gp gi am li dl _ _ (LI_same hI hu) H locs hP hD hS ls (lv_sub hl [3, 4, 5, 6, 0] rfl)

set_option maxHeartbeats 4000000 in
set_option maxRecDepth 100000 in
theorem lb_margin_bad (h : ¬ (inR (xs (i + 1)) (nI 0) (nI 5) ∧ inR (xs (i + 2)) (nI 1) (nI 60))) (h0 : LC p l s m args c D cI cZ cO cJ bs L xs A) (hi : i + 4 ≤ L) (hcl : cl + 1 ≤ 653765) (hsl : sl + 6 ≤ 7134809) (hI : LI σ μ ck Ho Hm Lo Se Em Ef gp gi am dl) (hP : va_P D vwCl (wL cI cZ cO cJ x a t b y o σ ρ μ ck Ho Hm Lo Se Em Ef gp gi am li dl g th) H) (hD : va_D A (wL cI cZ cO cJ x a t b y o σ ρ μ ck Ho Hm Lo Se Em Ef gp gi am li dl g th)) (hS : va_S A s.heap H locs) (hl : lv_has ls 7 [(0, .ref bs), (1, .ref (x 0)), (2, .ref (y 0)), (3, .ref o), (4, .int (nI i))]) (kk : Hd p l e s m args below meth c D cI cZ cO cJ x a t b y o bs A Q (i + 4) (cl + 1) (sl + 6)) : W p l e room_1 s m args below meth c H locs cl sl Q (F0 m 1166 ls []) := by
  obtain ⟨hx, hb, hml, hts, hown, hK, hN, hX, hC, hA, hsc, hbl, hbA, hst, hL⟩ := h0
  refine lv_aload_n hx hb dL_law_1166 rfl (lv_at hl 1 rfl) ?_
  refine lv_aload_n hx hb dL_law_1167 rfl (lv_at hl 0 rfl) ?_
  refine lv_iload hx hb dL_law_1168 (lv_at hl 4 rfl) ?_
  refine lv_iconst (v := nI 1) hx hb dL_law_1170 (by decide +kernel) ?_
  refine lv_iadd hx hb dL_law_1171 ?_
  refine k_as (nI_add _ _) ?_
  refine k_sld hx hb hsc hbl hbA hS (v := xs (i + 1)) (by omega) hL rfl dL_law_1172 ?_
  refine lv_aload_n hx hb dL_law_1173 rfl (lv_at hl 0 rfl) ?_
  refine lv_iload hx hb dL_law_1174 (lv_at hl 4 rfl) ?_
  refine lv_iconst (v := nI 2) hx hb dL_law_1176 (by decide +kernel) ?_
  refine lv_iadd hx hb dL_law_1177 ?_
  refine k_as (nI_add _ _) ?_
  refine k_sld hx hb hsc hbl hbA hS (v := xs (i + 2)) (by omega) hL rfl dL_law_1178 ?_
  refine lv_aload_n hx hb dL_law_1179 rfl (lv_at hl 3 rfl) ?_
  refine kCallP_i (mc := 1) (ms := 6) (W1 := fun _ : Unit => wC cI cZ cO x a t b ck Ho (sT σ) (sE σ) (sD σ) (sF σ) (sS σ) (sC σ) (sL σ) (sT ρ) (sE ρ) (sD ρ) (sF ρ) (sS ρ) (sC ρ) (sL ρ) Lo Se Ef gp gi am li dl ++ [(o, .inl (cJ, 1, .inr (.inl g)))]) (fun _ _ h => h) hP hD hS hA (fun _ => rfl) (vx_runSW (As := [.ref (x 0), .int (xs (i + 1)), .int (xs (i + 2)), .ref o]) (rest := []) ⟨hx, hb, hml, hown, hts⟩ (c_L_margin_bad l hst D cI cZ cO cJ x a t b ck Ho (sT σ) (sE σ) (sD σ) (sF σ) (sS σ) (sC σ) (sL σ) (sT ρ) (sE ρ) (sD ρ) (sF ρ) (sS ρ) (sC ρ) (sL ρ) Lo Se Ef gp gi am li dl (xs (i + 1)) (xs (i + 2)) o g H.size h) (vx_cwSW (rm := rxL_margin) 4 hts gL_law_L_margin rfl rfl rfl (by decide +kernel) ⟨Nat.le_of_ble_eq_true rfl, Nat.le_of_ble_eq_true rfl⟩) (kPreSHW hK hN hX hC (pfP hP) (pfD hD) hS (kfree (pfD hD) hS hA)) rfl rfl hl.1 rfl (lv_room (Nat.le_of_ble_eq_true rfl)) dL_law_1180 ⟨by show _ ≤ 653765; omega, by show _ ≤ 7134809; omega⟩) (fun r9 u H locs hr9 hP hD hS => ?_)
  subst hr9
  have hP : va_P D vwCl ((wC cI cZ cO x a t b ck Ho (sT σ) (sE σ) (sD σ) (sF σ) (sS σ) (sC σ) (sL σ) (sT ρ) (sE ρ) (sD ρ) (sF ρ) (sS ρ) (sC ρ) (sL ρ) Lo Se Ef gp gi am li dl ++ [(o, .inl (cJ, 1, .inr (.inl g)))]) ++ wM cI cZ y Lo Se Em gp gi am li dl (rK μ) (rT μ) (rE μ) (rD μ) (rF μ) (rS μ) (rC μ) Hm th) H := hP
  have hD : va_D A ((wC cI cZ cO x a t b ck Ho (sT σ) (sE σ) (sD σ) (sF σ) (sS σ) (sC σ) (sL σ) (sT ρ) (sE ρ) (sD ρ) (sF ρ) (sS ρ) (sC ρ) (sL ρ) Lo Se Ef gp gi am li dl ++ [(o, .inl (cJ, 1, .inr (.inl g)))]) ++ wM cI cZ y Lo Se Em gp gi am li dl (rK μ) (rT μ) (rE μ) (rD μ) (rF μ) (rS μ) (rC μ) Hm th) := hD
  refine lv_istore (lv' := [(5, .int (nI 1)), (0, .ref bs), (1, .ref (x 0)), (2, .ref (y 0)), (3, .ref o), (4, .int (nI i))]) hx hb dL_law_1183 hl (by decide) rfl (fun ls hl => ?_)
  refine lv_aload_n hx hb dL_law_1185 rfl (lv_at hl 3 rfl) ?_
  refine lv_aload_n hx hb dL_law_1186 rfl (lv_at hl 1 rfl) ?_
  refine lv_iload hx hb dL_law_1187 (lv_at hl 5 rfl) ?_
  refine lv_iconst (v := nI 1) hx hb dL_law_1189 (by decide +kernel) ?_
  refine lv_iadd hx hb dL_law_1190 ?_
  refine k_as (nI_add _ _) ?_
  refine k_sld hx hb hsc hbl hbA hS (v := xs (i + 1)) (by omega) hL rfl dL_law_1191 ?_
  refine lv_aload_n hx hb dL_law_1192 rfl (lv_at hl 1 rfl) ?_
  refine lv_iload hx hb dL_law_1193 (lv_at hl 5 rfl) ?_
  refine lv_iconst (v := nI 2) hx hb dL_law_1195 (by decide +kernel) ?_
  refine lv_iadd hx hb dL_law_1196 ?_
  refine k_as (nI_add _ _) ?_
  refine k_sld hx hb hsc hbl hbA hS (v := xs (i + 2)) (by omega) hL rfl dL_law_1197 ?_
  refine kCallS_i (mc := 0) (ms := 0) (W1 := fun _ : Unit => wM cI cZ y Lo Se Em gp gi am li dl (rK μ) (rT μ) (rE μ) (rD μ) (rF μ) (rS μ) (rC μ) Hm (nI 1)) (fun _ _ h => h) hP hD hS hA (fun _ => rfl) (va_runV (As := [.int (xs (i + 1)), .int (xs (i + 2))]) (rest := []) ⟨hx, hb, hml, hown, hts⟩ (c_X3_margin_bad l D cI cZ cO cJ y Lo Se Em gp gi am li dl (rK μ) (rT μ) (rE μ) (rD μ) (rF μ) (rS μ) (rC μ) Hm th (xs (i + 1)) (xs (i + 2)) H.size h) (cwV (rm := rmX3_margin) 2 hts gL_law_X3_margin rfl rfl rfl (by decide +kernel) ⟨Nat.le_of_ble_eq_true rfl, Nat.le_of_ble_eq_true rfl⟩) (kPreVW hK hN (sfP hP) (sfD hD) (va_recv hK (sfP hP) (ci := 3) (q0 := 0) rfl rfl)) rfl rfl hl.1 rfl (lv_room (Nat.le_of_ble_eq_true rfl)) dL_law_1198 ⟨by show _ ≤ 653765; omega, by show _ ≤ 7134809; omega⟩) (fun r9 u2 H locs hr9 hP hD hS => ?_)
  subst hr9
  have hP : va_P D vwCl ((wC cI cZ cO x a t b ck Ho (sT σ) (sE σ) (sD σ) (sF σ) (sS σ) (sC σ) (sL σ) (sT ρ) (sE ρ) (sD ρ) (sF ρ) (sS ρ) (sC ρ) (sL ρ) Lo Se Ef gp gi am li dl ++ [(o, .inl (cJ, 1, .inr (.inl g)))]) ++ wM cI cZ y Lo Se Em gp gi am li dl (rK μ) (rT μ) (rE μ) (rD μ) (rF μ) (rS μ) (rC μ) Hm (nI 1)) H := hP
  have hD : va_D A ((wC cI cZ cO x a t b ck Ho (sT σ) (sE σ) (sD σ) (sF σ) (sS σ) (sC σ) (sL σ) (sT ρ) (sE ρ) (sD ρ) (sF ρ) (sS ρ) (sC ρ) (sL ρ) Lo Se Ef gp gi am li dl ++ [(o, .inl (cJ, 1, .inr (.inl g)))]) ++ wM cI cZ y Lo Se Em gp gi am li dl (rK μ) (rT μ) (rE μ) (rD μ) (rF μ) (rS μ) (rC μ) Hm (nI 1)) := hD
  refine lv_istore (lv' := [(6, .int (nI 0)), (5, .int (nI 1)), (0, .ref bs), (1, .ref (x 0)), (2, .ref (y 0)), (3, .ref o), (4, .int (nI i))]) hx hb dL_law_1201 hl (by decide) rfl (fun ls hl => ?_)
  refine lv_aload_n hx hb dL_law_1203 rfl (lv_at hl 4 rfl) ?_
  refine kCallS_i (mc := 0) (ms := 0) (W1 := fun _ : Unit => wM cI cZ y Lo Se Em gp gi am li dl (rK μ) (rT μ) (rE μ) (rD μ) (rF μ) (rS μ) (rC μ) Hm (nI 1)) (fun _ _ h => h) hP hD hS hA (fun _ => rfl) (va_runV (As := []) (rest := []) ⟨hx, hb, hml, hown, hts⟩ (c_X3_thrown l D cI cZ cO cJ y Lo Se Em gp gi am li dl (rK μ) (rT μ) (rE μ) (rD μ) (rF μ) (rS μ) (rC μ) Hm (nI 1) H.size) (cwV (rm := rmX3_thrown) 0 hts gL_law_X3_thrown rfl rfl rfl (by decide +kernel) ⟨Nat.le_of_ble_eq_true rfl, Nat.le_of_ble_eq_true rfl⟩) (kPreVW hK hN (sfP hP) (sfD hD) (va_recv hK (sfP hP) (ci := 3) (q0 := 0) rfl rfl)) rfl rfl hl.1 rfl (lv_room (Nat.le_of_ble_eq_true rfl)) dL_law_1204 ⟨by show _ ≤ 653765; omega, by show _ ≤ 7134809; omega⟩) (fun r9 u3 H locs hr9 hP hD hS => ?_)
  subst hr9
  have hP : va_P D vwCl ((wC cI cZ cO x a t b ck Ho (sT σ) (sE σ) (sD σ) (sF σ) (sS σ) (sC σ) (sL σ) (sT ρ) (sE ρ) (sD ρ) (sF ρ) (sS ρ) (sC ρ) (sL ρ) Lo Se Ef gp gi am li dl ++ [(o, .inl (cJ, 1, .inr (.inl g)))]) ++ wM cI cZ y Lo Se Em gp gi am li dl (rK μ) (rT μ) (rE μ) (rD μ) (rF μ) (rS μ) (rC μ) Hm (nI 1)) H := hP
  have hD : va_D A ((wC cI cZ cO x a t b ck Ho (sT σ) (sE σ) (sD σ) (sF σ) (sS σ) (sC σ) (sL σ) (sT ρ) (sE ρ) (sD ρ) (sF ρ) (sS ρ) (sC ρ) (sL ρ) Lo Se Ef gp gi am li dl ++ [(o, .inl (cJ, 1, .inr (.inl g)))]) ++ wM cI cZ y Lo Se Em gp gi am li dl (rK μ) (rT μ) (rE μ) (rD μ) (rF μ) (rS μ) (rC μ) Hm (nI 1)) := hD
  refine lv_iload hx hb dL_law_1207 (lv_at hl 1 rfl) ?_
  refine lv_icmp_eq (tgt := 1214) hx hb dL_law_1209 (by decide) (fun _ => ?_) (fun c9 => absurd rfl c9)
  refine lv_iload hx hb dL_law_1214 (lv_at hl 1 rfl) ?_
  refine lv_if_ne (tgt := 1231) hx hb dL_law_1216 (by decide) (fun _ => ?_) (fun c9 => absurd c9 (by decide))
  refine lv_goto (tgt := 1234) hx hb dL_law_1231 (by decide) ?_
  refine lv_iinc (v := nI (i + 4)) (lv' := [(4, .int (nI (i + 4))), (6, .int (nI 0)), (5, .int (nI 1)), (0, .ref bs), (1, .ref (x 0)), (2, .ref (y 0)), (3, .ref o)]) hx hb dL_law_1234 hl (k := 6) rfl (nI_add _ 4) (by decide) rfl (fun ls hl => ?_)
  refine lv_goto (tgt := 23) hx hb dL_law_1237 (by decide) ?_
  refine W.widen (k := cl + 1) (n := sl + 6) (by omega) (by omega) ?_
  exact kk σ ρ μ ck Ho Hm Lo Se Em Ef gp gi am li dl _ _ hI H locs hP hD hS ls (lv_sub hl [3, 4, 5, 6, 0] rfl)

set_option maxHeartbeats 4000000 in
set_option maxRecDepth 100000 in
theorem lb_clock (h0 : LC p l s m args c D cI cZ cO cJ bs L xs A) (hi : i + 4 ≤ L) (hcl : cl + 1 ≤ 653765) (hsl : sl + 6 ≤ 7134809) (hI : LI σ μ ck Ho Hm Lo Se Em Ef gp gi am dl) (hP : va_P D vwCl (wL cI cZ cO cJ x a t b y o σ ρ μ ck Ho Hm Lo Se Em Ef gp gi am li dl g th) H) (hD : va_D A (wL cI cZ cO cJ x a t b y o σ ρ μ ck Ho Hm Lo Se Em Ef gp gi am li dl g th)) (hS : va_S A s.heap H locs) (hl : lv_has ls 7 [(0, .ref bs), (1, .ref (x 0)), (2, .ref (y 0)), (3, .ref o), (4, .int (nI i))]) (kk : Hd p l e s m args below meth c D cI cZ cO cJ x a t b y o bs A Q (i + 4) (cl + 1) (sl + 6)) : W p l e room_1 s m args below meth c H locs cl sl Q (F0 m 780 ls []) := by
  obtain ⟨hx, hb, hml, hts, hown, hK, hN, hX, hC, hA, hsc, hbl, hbA, hst, hL⟩ := h0
  refine lv_aload_n hx hb dL_law_780 rfl (lv_at hl 1 rfl) ?_
  rw [show wL cI cZ cO cJ x a t b y o σ ρ μ ck Ho Hm Lo Se Em Ef gp gi am li dl g th = _ from List.append_assoc _ _ _] at hP hD
  refine kCallP_i (mc := 0) (ms := 0) (W1 := fun _ : Unit => wC cI cZ cO x a t b ck Ho (sT σ) (sE σ) (sD σ) (sF σ) (sS σ) (sC σ) (sL σ) (sT ρ) (sE ρ) (sD ρ) (sF ρ) (sS ρ) (sC ρ) (sL ρ) Lo Se Ef gp gi am li dl) (fun _ _ h => h) hP hD hS hA (fun _ => rfl) (va_runV (As := []) (rest := []) ⟨hx, hb, hml, hown, hts⟩ (c_X2_clock l D cI cZ cO cJ x a t b ck Ho (sT σ) (sE σ) (sD σ) (sF σ) (sS σ) (sC σ) (sL σ) (sT ρ) (sE ρ) (sD ρ) (sF ρ) (sS ρ) (sC ρ) (sL ρ) Lo Se Ef gp gi am li dl H.size) (cwV (rm := rmX2_clock) 0 hts gL_law_X2_clock rfl rfl rfl (by decide +kernel) ⟨Nat.le_of_ble_eq_true rfl, Nat.le_of_ble_eq_true rfl⟩) (kPreVW hK hN (pfP hP) (pfD hD) (va_recv hK (pfP hP) (ci := 2) (q0 := 0) rfl rfl)) rfl rfl hl.1 rfl (lv_room (Nat.le_of_ble_eq_true rfl)) dL_law_781 ⟨by show _ ≤ 653765; omega, by show _ ≤ 7134809; omega⟩) (fun r9 u H locs hr9 hP hD hS => ?_)
  subst hr9
  rw [← List.append_assoc] at hP hD
  have hP : va_P D vwCl ((wC cI cZ cO x a t b ck Ho (sT σ) (sE σ) (sD σ) (sF σ) (sS σ) (sC σ) (sL σ) (sT ρ) (sE ρ) (sD ρ) (sF ρ) (sS ρ) (sC ρ) (sL ρ) Lo Se Ef gp gi am li dl ++ [(o, .inl (cJ, 1, .inr (.inl g)))]) ++ wM cI cZ y Lo Se Em gp gi am li dl (rK μ) (rT μ) (rE μ) (rD μ) (rF μ) (rS μ) (rC μ) Hm th) H := hP
  have hD : va_D A ((wC cI cZ cO x a t b ck Ho (sT σ) (sE σ) (sD σ) (sF σ) (sS σ) (sC σ) (sL σ) (sT ρ) (sE ρ) (sD ρ) (sF ρ) (sS ρ) (sC ρ) (sL ρ) Lo Se Ef gp gi am li dl ++ [(o, .inl (cJ, 1, .inr (.inl g)))]) ++ wM cI cZ y Lo Se Em gp gi am li dl (rK μ) (rT μ) (rE μ) (rD μ) (rF μ) (rS μ) (rC μ) Hm th) := hD
  refine lv_aload_n hx hb dL_law_784 rfl (lv_at hl 2 rfl) ?_
  refine kCallS_i (mc := 0) (ms := 0) (W1 := fun _ : Unit => wM cI cZ y Lo Se Em gp gi am li dl (rK μ) (rT μ) (rE μ) (rD μ) (rF μ) (rS μ) (rC μ) Hm (nI 0)) (fun _ _ h => h) hP hD hS hA (fun _ => rfl) (va_runV (As := []) (rest := [.int (nI ck)]) ⟨hx, hb, hml, hown, hts⟩ (c_X3_clock l D cI cZ cO cJ y Lo Se Em gp gi am li dl (rK μ) (rT μ) (rE μ) (rD μ) (rF μ) (rS μ) (rC μ) Hm th H.size) (cwV (rm := rmX3_clock) 0 hts gL_law_X3_clock rfl rfl rfl (by decide +kernel) ⟨Nat.le_of_ble_eq_true rfl, Nat.le_of_ble_eq_true rfl⟩) (kPreVW hK hN (sfP hP) (sfD hD) (va_recv hK (sfP hP) (ci := 3) (q0 := 0) rfl rfl)) rfl rfl hl.1 rfl (lv_room (Nat.le_of_ble_eq_true rfl)) dL_law_785 ⟨by show _ ≤ 653765; omega, by show _ ≤ 7134809; omega⟩) (fun r9 u H locs hr9 hP hD hS => ?_)
  subst hr9
  refine lv_icmp_eq (tgt := 1234) hx hb dL_law_788 (by decide) (fun _ => ?_) (fun c9 => absurd (by rw [hI.2.2.1]) c9)
  refine lv_iinc (v := nI (i + 4)) (lv' := [(4, .int (nI (i + 4))), (0, .ref bs), (1, .ref (x 0)), (2, .ref (y 0)), (3, .ref o)]) hx hb dL_law_1234 hl (k := 4) rfl (nI_add _ 4) (by decide) rfl (fun ls hl => ?_)
  refine lv_goto (tgt := 23) hx hb dL_law_1237 (by decide) ?_
  refine W.widen (k := cl + 1) (n := sl + 6) (by omega) (by omega) ?_
  exact kk σ ρ μ ck Ho Hm Lo Se Em Ef gp gi am li dl _ _ hI H locs hP hD hS ls (lv_sub hl [1, 2, 3, 4, 0] rfl)

set_option maxHeartbeats 4000000 in
set_option maxRecDepth 100000 in
theorem lb_hottest (h0 : LC p l s m args c D cI cZ cO cJ bs L xs A) (hi : i + 4 ≤ L) (hcl : cl + 1 ≤ 653765) (hsl : sl + 6 ≤ 7134809) (hI : LI σ μ ck Ho Hm Lo Se Em Ef gp gi am dl) (hP : va_P D vwCl (wL cI cZ cO cJ x a t b y o σ ρ μ ck Ho Hm Lo Se Em Ef gp gi am li dl g th) H) (hD : va_D A (wL cI cZ cO cJ x a t b y o σ ρ μ ck Ho Hm Lo Se Em Ef gp gi am li dl g th)) (hS : va_S A s.heap H locs) (hl : lv_has ls 7 [(0, .ref bs), (1, .ref (x 0)), (2, .ref (y 0)), (3, .ref o), (4, .int (nI i))]) (kk : Hd p l e s m args below meth c D cI cZ cO cJ x a t b y o bs A Q (i + 4) (cl + 1) (sl + 6)) : W p l e room_1 s m args below meth c H locs cl sl Q (F0 m 1017 ls []) := by
  obtain ⟨hx, hb, hml, hts, hown, hK, hN, hX, hC, hA, hsc, hbl, hbA, hst, hL⟩ := h0
  refine lv_aload_n hx hb dL_law_1017 rfl (lv_at hl 1 rfl) ?_
  rw [show wL cI cZ cO cJ x a t b y o σ ρ μ ck Ho Hm Lo Se Em Ef gp gi am li dl g th = _ from List.append_assoc _ _ _] at hP hD
  refine kCallP_i (mc := 0) (ms := 0) (W1 := fun _ : Unit => wC cI cZ cO x a t b ck Ho (sT σ) (sE σ) (sD σ) (sF σ) (sS σ) (sC σ) (sL σ) (sT ρ) (sE ρ) (sD ρ) (sF ρ) (sS ρ) (sC ρ) (sL ρ) Lo Se Ef gp gi am li dl) (fun _ _ h => h) hP hD hS hA (fun _ => rfl) (va_runV (As := []) (rest := []) ⟨hx, hb, hml, hown, hts⟩ (c_X2_hottest l D cI cZ cO cJ x a t b ck Ho (sT σ) (sE σ) (sD σ) (sF σ) (sS σ) (sC σ) (sL σ) (sT ρ) (sE ρ) (sD ρ) (sF ρ) (sS ρ) (sC ρ) (sL ρ) Lo Se Ef gp gi am li dl H.size) (cwV (rm := rmX2_hottest) 0 hts gL_law_X2_hottest rfl rfl rfl (by decide +kernel) ⟨Nat.le_of_ble_eq_true rfl, Nat.le_of_ble_eq_true rfl⟩) (kPreVW hK hN (pfP hP) (pfD hD) (va_recv hK (pfP hP) (ci := 2) (q0 := 0) rfl rfl)) rfl rfl hl.1 rfl (lv_room (Nat.le_of_ble_eq_true rfl)) dL_law_1018 ⟨by show _ ≤ 653765; omega, by show _ ≤ 7134809; omega⟩) (fun r9 u H locs hr9 hP hD hS => ?_)
  subst hr9
  rw [← List.append_assoc] at hP hD
  have hP : va_P D vwCl ((wC cI cZ cO x a t b ck Ho (sT σ) (sE σ) (sD σ) (sF σ) (sS σ) (sC σ) (sL σ) (sT ρ) (sE ρ) (sD ρ) (sF ρ) (sS ρ) (sC ρ) (sL ρ) Lo Se Ef gp gi am li dl ++ [(o, .inl (cJ, 1, .inr (.inl g)))]) ++ wM cI cZ y Lo Se Em gp gi am li dl (rK μ) (rT μ) (rE μ) (rD μ) (rF μ) (rS μ) (rC μ) Hm th) H := hP
  have hD : va_D A ((wC cI cZ cO x a t b ck Ho (sT σ) (sE σ) (sD σ) (sF σ) (sS σ) (sC σ) (sL σ) (sT ρ) (sE ρ) (sD ρ) (sF ρ) (sS ρ) (sC ρ) (sL ρ) Lo Se Ef gp gi am li dl ++ [(o, .inl (cJ, 1, .inr (.inl g)))]) ++ wM cI cZ y Lo Se Em gp gi am li dl (rK μ) (rT μ) (rE μ) (rD μ) (rF μ) (rS μ) (rC μ) Hm th) := hD
  refine lv_aload_n hx hb dL_law_1021 rfl (lv_at hl 2 rfl) ?_
  refine kCallS_i (mc := 0) (ms := 0) (W1 := fun _ : Unit => wM cI cZ y Lo Se Em gp gi am li dl (rK μ) (rT μ) (rE μ) (rD μ) (rF μ) (rS μ) (rC μ) Hm (nI 0)) (fun _ _ h => h) hP hD hS hA (fun _ => rfl) (va_runV (As := []) (rest := [.int (nI (mBest (sT σ) 5))]) ⟨hx, hb, hml, hown, hts⟩ (c_X3_hottest l D cI cZ cO cJ y Lo Se Em gp gi am li dl (rK μ) (rT μ) (rE μ) (rD μ) (rF μ) (rS μ) (rC μ) Hm th H.size) (cwV (rm := rmX3_hottest) 0 hts gL_law_X3_hottest rfl rfl rfl (by decide +kernel) ⟨Nat.le_of_ble_eq_true rfl, Nat.le_of_ble_eq_true rfl⟩) (kPreVW hK hN (sfP hP) (sfD hD) (va_recv hK (sfP hP) (ci := 3) (q0 := 0) rfl rfl)) rfl rfl hl.1 rfl (lv_room (Nat.le_of_ble_eq_true rfl)) dL_law_1022 ⟨by show _ ≤ 653765; omega, by show _ ≤ 7134809; omega⟩) (fun r9 u H locs hr9 hP hD hS => ?_)
  subst hr9
  refine lv_icmp_eq (tgt := 1234) hx hb dL_law_1025 (by decide) (fun _ => ?_) (fun c9 => absurd (by rw [LI_hot hI]) c9)
  refine lv_iinc (v := nI (i + 4)) (lv' := [(4, .int (nI (i + 4))), (0, .ref bs), (1, .ref (x 0)), (2, .ref (y 0)), (3, .ref o)]) hx hb dL_law_1234 hl (k := 4) rfl (nI_add _ 4) (by decide) rfl (fun ls hl => ?_)
  refine lv_goto (tgt := 23) hx hb dL_law_1237 (by decide) ?_
  refine W.widen (k := cl + 1) (n := sl + 6) (by omega) (by omega) ?_
  exact kk σ ρ μ ck Ho Hm Lo Se Em Ef gp gi am li dl _ _ hI H locs hP hD hS ls (lv_sub hl [1, 2, 3, 4, 0] rfl)

end LB
