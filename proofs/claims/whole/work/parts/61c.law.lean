section LB
variable {p : Program} {l : Launch} {e : Env} {s : State} {m : MethodId} {args : Array Value} {below : List Frame} {meth : Method} {c : Code} {Q : State → Prop} {D : va_G} {cI cZ cO cJ : ClassId} {x a t b y : Nat → Nat} {o bs L : Nat} {xs : Nat → Int32} {A : Nat → Prop} {i cl sl : Nat}
variable {σ ρ : HS} {μ : MS} {ck : Nat} {Ho Hm Lo Se Em : Nat → Int32} {Ef : Nat → Nat → Int32} {gp gi am li : Int32} {dl : Nat} {g : Nat → Int64} {th : Int32} {H : Heap} {locs : List Loc} {ls : Array Slot}
set_option maxHeartbeats 4000000 in
set_option maxRecDepth 100000 in
theorem lb_speed_bad (h : ¬ inR (xs (i + 1)) (nI 0) (nI 7)) (h0 : LC p l s m args c D cI cZ cO cJ bs L xs A) (hi : i + 4 ≤ L) (hcl : cl + 1 ≤ 653765) (hsl : sl + 6 ≤ 7134809) (hI : LI σ μ ck Ho Hm Lo Se Em Ef gp gi am dl) (hP : va_P D vwCl (wL cI cZ cO cJ x a t b y o σ ρ μ ck Ho Hm Lo Se Em Ef gp gi am li dl g th) H) (hD : va_D A (wL cI cZ cO cJ x a t b y o σ ρ μ ck Ho Hm Lo Se Em Ef gp gi am li dl g th)) (hS : va_S A s.heap H locs) (hl : lv_has ls 7 [(0, .ref bs), (1, .ref (x 0)), (2, .ref (y 0)), (3, .ref o), (4, .int (nI i))]) (kk : Hd p l e s m args below meth c D cI cZ cO cJ x a t b y o bs A Q (i + 4) (cl + 1) (sl + 6)) : W p l e room_1 s m args below meth c H locs cl sl Q (F0 m 668 ls []) := by
  obtain ⟨hx, hb, hml, hts, hown, hK, hN, hX, hC, hA, hsc, hbl, hbA, hst, hL⟩ := h0
  refine lv_aload_n hx hb dL_law_668 rfl (lv_at hl 1 rfl) ?_
  refine lv_aload_n hx hb dL_law_669 rfl (lv_at hl 0 rfl) ?_
  refine lv_iload hx hb dL_law_670 (lv_at hl 4 rfl) ?_
  refine lv_iconst (v := nI 1) hx hb dL_law_672 (by decide +kernel) ?_
  refine lv_iadd hx hb dL_law_673 ?_
  refine k_as (nI_add _ _) ?_
  refine k_sld hx hb hsc hbl hbA hS (v := xs (i + 1)) (by omega) hL rfl dL_law_674 ?_
  refine lv_aload_n hx hb dL_law_675 rfl (lv_at hl 3 rfl) ?_
  refine kCallP_i (mc := 1) (ms := 6) (W1 := fun _ : Unit => wC cI cZ cO x a t b ck Ho (sT σ) (sE σ) (sD σ) (sF σ) (sS σ) (sC σ) (sL σ) (sT ρ) (sE ρ) (sD ρ) (sF ρ) (sS ρ) (sC ρ) (sL ρ) Lo Se Ef gp gi am li dl ++ [(o, .inl (cJ, 1, .inr (.inl g)))]) (fun _ _ h => h) hP hD hS hA (fun _ => rfl) (vx_runSW (As := [.ref (x 0), .int (xs (i + 1)), .ref o]) (rest := []) ⟨hx, hb, hml, hown, hts⟩ (c_L_speed_bad l hst D cI cZ cO cJ x a t b ck Ho (sT σ) (sE σ) (sD σ) (sF σ) (sS σ) (sC σ) (sL σ) (sT ρ) (sE ρ) (sD ρ) (sF ρ) (sS ρ) (sC ρ) (sL ρ) Lo Se Ef gp gi am li dl (xs (i + 1)) o g H.size h) (vx_cwSW (rm := rxL_speed) 3 hts gL_law_L_speed rfl rfl rfl (by decide +kernel) ⟨Nat.le_of_ble_eq_true rfl, Nat.le_of_ble_eq_true rfl⟩) (kPreSHW hK hN hX hC (pfP hP) (pfD hD) hS (kfree (pfD hD) hS hA)) rfl rfl hl.1 rfl (lv_room (Nat.le_of_ble_eq_true rfl)) dL_law_676 ⟨by show _ ≤ 653765; omega, by show _ ≤ 7134809; omega⟩) (fun r9 u H locs hr9 hP hD hS => ?_)
  subst hr9
  have hP : va_P D vwCl ((wC cI cZ cO x a t b ck Ho (sT σ) (sE σ) (sD σ) (sF σ) (sS σ) (sC σ) (sL σ) (sT ρ) (sE ρ) (sD ρ) (sF ρ) (sS ρ) (sC ρ) (sL ρ) Lo Se Ef gp gi am li dl ++ [(o, .inl (cJ, 1, .inr (.inl g)))]) ++ wM cI cZ y Lo Se Em gp gi am li dl (rK μ) (rT μ) (rE μ) (rD μ) (rF μ) (rS μ) (rC μ) Hm th) H := hP
  have hD : va_D A ((wC cI cZ cO x a t b ck Ho (sT σ) (sE σ) (sD σ) (sF σ) (sS σ) (sC σ) (sL σ) (sT ρ) (sE ρ) (sD ρ) (sF ρ) (sS ρ) (sC ρ) (sL ρ) Lo Se Ef gp gi am li dl ++ [(o, .inl (cJ, 1, .inr (.inl g)))]) ++ wM cI cZ y Lo Se Em gp gi am li dl (rK μ) (rT μ) (rE μ) (rD μ) (rF μ) (rS μ) (rC μ) Hm th) := hD
  refine lv_istore (lv' := [(5, .int (nI 1)), (0, .ref bs), (1, .ref (x 0)), (2, .ref (y 0)), (3, .ref o), (4, .int (nI i))]) hx hb dL_law_679 hl (by decide) rfl (fun ls hl => ?_)
  refine lv_aload_n hx hb dL_law_681 rfl (lv_at hl 3 rfl) ?_
  refine lv_aload_n hx hb dL_law_682 rfl (lv_at hl 1 rfl) ?_
  refine lv_iload hx hb dL_law_683 (lv_at hl 5 rfl) ?_
  refine lv_iconst (v := nI 1) hx hb dL_law_685 (by decide +kernel) ?_
  refine lv_iadd hx hb dL_law_686 ?_
  refine k_as (nI_add _ _) ?_
  refine k_sld hx hb hsc hbl hbA hS (v := xs (i + 1)) (by omega) hL rfl dL_law_687 ?_
  refine kCallS_i (mc := 0) (ms := 0) (W1 := fun _ : Unit => wM cI cZ y Lo Se Em gp gi am li dl (rK μ) (rT μ) (rE μ) (rD μ) (rF μ) (rS μ) (rC μ) Hm (nI 1)) (fun _ _ h => h) hP hD hS hA (fun _ => rfl) (va_runV (As := [.int (xs (i + 1))]) (rest := []) ⟨hx, hb, hml, hown, hts⟩ (c_X3_speed_bad l D cI cZ cO cJ y Lo Se Em gp gi am li dl (rK μ) (rT μ) (rE μ) (rD μ) (rF μ) (rS μ) (rC μ) Hm th (xs (i + 1)) H.size h) (cwV (rm := rmX3_speed) 1 hts gL_law_X3_speed rfl rfl rfl (by decide +kernel) ⟨Nat.le_of_ble_eq_true rfl, Nat.le_of_ble_eq_true rfl⟩) (kPreVW hK hN (sfP hP) (sfD hD) (va_recv hK (sfP hP) (ci := 3) (q0 := 0) rfl rfl)) rfl rfl hl.1 rfl (lv_room (Nat.le_of_ble_eq_true rfl)) dL_law_688 ⟨by show _ ≤ 653765; omega, by show _ ≤ 7134809; omega⟩) (fun r9 u2 H locs hr9 hP hD hS => ?_)
  subst hr9
  have hP : va_P D vwCl ((wC cI cZ cO x a t b ck Ho (sT σ) (sE σ) (sD σ) (sF σ) (sS σ) (sC σ) (sL σ) (sT ρ) (sE ρ) (sD ρ) (sF ρ) (sS ρ) (sC ρ) (sL ρ) Lo Se Ef gp gi am li dl ++ [(o, .inl (cJ, 1, .inr (.inl g)))]) ++ wM cI cZ y Lo Se Em gp gi am li dl (rK μ) (rT μ) (rE μ) (rD μ) (rF μ) (rS μ) (rC μ) Hm (nI 1)) H := hP
  have hD : va_D A ((wC cI cZ cO x a t b ck Ho (sT σ) (sE σ) (sD σ) (sF σ) (sS σ) (sC σ) (sL σ) (sT ρ) (sE ρ) (sD ρ) (sF ρ) (sS ρ) (sC ρ) (sL ρ) Lo Se Ef gp gi am li dl ++ [(o, .inl (cJ, 1, .inr (.inl g)))]) ++ wM cI cZ y Lo Se Em gp gi am li dl (rK μ) (rT μ) (rE μ) (rD μ) (rF μ) (rS μ) (rC μ) Hm (nI 1)) := hD
  refine lv_istore (lv' := [(6, .int (nI 0)), (5, .int (nI 1)), (0, .ref bs), (1, .ref (x 0)), (2, .ref (y 0)), (3, .ref o), (4, .int (nI i))]) hx hb dL_law_691 hl (by decide) rfl (fun ls hl => ?_)
  refine lv_aload_n hx hb dL_law_693 rfl (lv_at hl 4 rfl) ?_
  refine kCallS_i (mc := 0) (ms := 0) (W1 := fun _ : Unit => wM cI cZ y Lo Se Em gp gi am li dl (rK μ) (rT μ) (rE μ) (rD μ) (rF μ) (rS μ) (rC μ) Hm (nI 1)) (fun _ _ h => h) hP hD hS hA (fun _ => rfl) (va_runV (As := []) (rest := []) ⟨hx, hb, hml, hown, hts⟩ (c_X3_thrown l D cI cZ cO cJ y Lo Se Em gp gi am li dl (rK μ) (rT μ) (rE μ) (rD μ) (rF μ) (rS μ) (rC μ) Hm (nI 1) H.size) (cwV (rm := rmX3_thrown) 0 hts gL_law_X3_thrown rfl rfl rfl (by decide +kernel) ⟨Nat.le_of_ble_eq_true rfl, Nat.le_of_ble_eq_true rfl⟩) (kPreVW hK hN (sfP hP) (sfD hD) (va_recv hK (sfP hP) (ci := 3) (q0 := 0) rfl rfl)) rfl rfl hl.1 rfl (lv_room (Nat.le_of_ble_eq_true rfl)) dL_law_694 ⟨by show _ ≤ 653765; omega, by show _ ≤ 7134809; omega⟩) (fun r9 u3 H locs hr9 hP hD hS => ?_)
  subst hr9
  have hP : va_P D vwCl ((wC cI cZ cO x a t b ck Ho (sT σ) (sE σ) (sD σ) (sF σ) (sS σ) (sC σ) (sL σ) (sT ρ) (sE ρ) (sD ρ) (sF ρ) (sS ρ) (sC ρ) (sL ρ) Lo Se Ef gp gi am li dl ++ [(o, .inl (cJ, 1, .inr (.inl g)))]) ++ wM cI cZ y Lo Se Em gp gi am li dl (rK μ) (rT μ) (rE μ) (rD μ) (rF μ) (rS μ) (rC μ) Hm (nI 1)) H := hP
  have hD : va_D A ((wC cI cZ cO x a t b ck Ho (sT σ) (sE σ) (sD σ) (sF σ) (sS σ) (sC σ) (sL σ) (sT ρ) (sE ρ) (sD ρ) (sF ρ) (sS ρ) (sC ρ) (sL ρ) Lo Se Ef gp gi am li dl ++ [(o, .inl (cJ, 1, .inr (.inl g)))]) ++ wM cI cZ y Lo Se Em gp gi am li dl (rK μ) (rT μ) (rE μ) (rD μ) (rF μ) (rS μ) (rC μ) Hm (nI 1)) := hD
  refine lv_iload hx hb dL_law_697 (lv_at hl 1 rfl) ?_
  refine lv_icmp_eq (tgt := 704) hx hb dL_law_699 (by decide) (fun _ => ?_) (fun c9 => absurd rfl c9)
  refine lv_iload hx hb dL_law_704 (lv_at hl 1 rfl) ?_
  refine lv_if_ne (tgt := 721) hx hb dL_law_706 (by decide) (fun _ => ?_) (fun c9 => absurd c9 (by decide))
  refine lv_goto (tgt := 1234) hx hb dL_law_721 (by decide) ?_
  refine lv_iinc (v := nI (i + 4)) (lv' := [(4, .int (nI (i + 4))), (6, .int (nI 0)), (5, .int (nI 1)), (0, .ref bs), (1, .ref (x 0)), (2, .ref (y 0)), (3, .ref o)]) hx hb dL_law_1234 hl (k := 6) rfl (nI_add _ 4) (by decide) rfl (fun ls hl => ?_)
  refine lv_goto (tgt := 23) hx hb dL_law_1237 (by decide) ?_
  refine W.widen (k := cl + 1) (n := sl + 6) (by omega) (by omega) ?_
  exact kk σ ρ μ ck Ho Hm Lo Se Em Ef gp gi am li dl _ _ hI H locs hP hD hS ls (lv_sub hl [3, 4, 5, 6, 0] rfl)

set_option maxHeartbeats 4000000 in
set_option maxRecDepth 100000 in
theorem lb_temperature_ok (z : Nat) (e1 : xs (i + 1) = nI z) (hz : z < 6) (h0 : LC p l s m args c D cI cZ cO cJ bs L xs A) (hi : i + 4 ≤ L) (hcl : cl + 1 ≤ 653765) (hsl : sl + 6 ≤ 7134809) (hI : LI σ μ ck Ho Hm Lo Se Em Ef gp gi am dl) (hP : va_P D vwCl (wL cI cZ cO cJ x a t b y o σ ρ μ ck Ho Hm Lo Se Em Ef gp gi am li dl g th) H) (hD : va_D A (wL cI cZ cO cJ x a t b y o σ ρ μ ck Ho Hm Lo Se Em Ef gp gi am li dl g th)) (hS : va_S A s.heap H locs) (hl : lv_has ls 7 [(0, .ref bs), (1, .ref (x 0)), (2, .ref (y 0)), (3, .ref o), (4, .int (nI i))]) (kk : Hd p l e s m args below meth c D cI cZ cO cJ x a t b y o bs A Q (i + 4) (cl + 1) (sl + 6)) : W p l e room_1 s m args below meth c H locs cl sl Q (F0 m 793 ls []) := by
  obtain ⟨hx, hb, hml, hts, hown, hK, hN, hX, hC, hA, hsc, hbl, hbA, hst, hL⟩ := h0
  refine lv_aload_n hx hb dL_law_793 rfl (lv_at hl 1 rfl) ?_
  refine lv_aload_n hx hb dL_law_794 rfl (lv_at hl 0 rfl) ?_
  refine lv_iload hx hb dL_law_795 (lv_at hl 4 rfl) ?_
  refine lv_iconst (v := nI 1) hx hb dL_law_797 (by decide +kernel) ?_
  refine lv_iadd hx hb dL_law_798 ?_
  refine k_as (nI_add _ _) ?_
  refine k_sld hx hb hsc hbl hbA hS (v := nI z) (by omega) hL e1 dL_law_799 ?_
  refine lv_aload_n hx hb dL_law_800 rfl (lv_at hl 3 rfl) ?_
  refine kCallP_i (mc := 0) (ms := 0) (W1 := fun _ : Unit => wC cI cZ cO x a t b ck Ho (sT σ) (sE σ) (sD σ) (sF σ) (sS σ) (sC σ) (sL σ) (sT ρ) (sE ρ) (sD ρ) (sF ρ) (sS ρ) (sC ρ) (sL ρ) Lo Se Ef gp gi am li dl ++ [(o, .inl (cJ, 1, .inr (.inl (vp_updL g 0 (((sT σ) z)).toInt64))))]) (fun _ _ h => h) hP hD hS hA (fun _ => rfl) (vx_runSW (As := [.ref (x 0), .int (nI z), .ref o]) (rest := []) ⟨hx, hb, hml, hown, hts⟩ (c_L_temperature l D cI cZ cO cJ x a t b ck Ho (sT σ) (sE σ) (sD σ) (sF σ) (sS σ) (sC σ) (sL σ) (sT ρ) (sE ρ) (sD ρ) (sF ρ) (sS ρ) (sC ρ) (sL ρ) Lo Se Ef gp gi am li dl z o g H.size hz) (vx_cwSW (rm := rmL_temperature) 3 hts gL_law_L_temperature rfl rfl rfl (by decide +kernel) ⟨Nat.le_of_ble_eq_true rfl, Nat.le_of_ble_eq_true rfl⟩) (kPreSHW hK hN hX hC (pfP hP) (pfD hD) hS (kfree (pfD hD) hS hA)) rfl rfl hl.1 rfl (lv_room (Nat.le_of_ble_eq_true rfl)) dL_law_801 ⟨by show _ ≤ 653765; omega, by show _ ≤ 7134809; omega⟩) (fun r9 u H locs hr9 hP hD hS => ?_)
  subst hr9
  have hP : va_P D vwCl ((wC cI cZ cO x a t b ck Ho (sT σ) (sE σ) (sD σ) (sF σ) (sS σ) (sC σ) (sL σ) (sT ρ) (sE ρ) (sD ρ) (sF ρ) (sS ρ) (sC ρ) (sL ρ) Lo Se Ef gp gi am li dl ++ [(o, .inl (cJ, 1, .inr (.inl (vp_updL g 0 (((sT σ) z)).toInt64))))]) ++ wM cI cZ y Lo Se Em gp gi am li dl (rK μ) (rT μ) (rE μ) (rD μ) (rF μ) (rS μ) (rC μ) Hm th) H := hP
  have hD : va_D A ((wC cI cZ cO x a t b ck Ho (sT σ) (sE σ) (sD σ) (sF σ) (sS σ) (sC σ) (sL σ) (sT ρ) (sE ρ) (sD ρ) (sF ρ) (sS ρ) (sC ρ) (sL ρ) Lo Se Ef gp gi am li dl ++ [(o, .inl (cJ, 1, .inr (.inl (vp_updL g 0 (((sT σ) z)).toInt64))))]) ++ wM cI cZ y Lo Se Em gp gi am li dl (rK μ) (rT μ) (rE μ) (rD μ) (rF μ) (rS μ) (rC μ) Hm th) := hD
  refine lv_istore (lv' := [(5, .int (nI 0)), (0, .ref bs), (1, .ref (x 0)), (2, .ref (y 0)), (3, .ref o), (4, .int (nI i))]) hx hb dL_law_804 hl (by decide) rfl (fun ls hl => ?_)
  refine lv_aload_n hx hb dL_law_806 rfl (lv_at hl 3 rfl) ?_
  refine lv_aload_n hx hb dL_law_807 rfl (lv_at hl 1 rfl) ?_
  refine lv_iload hx hb dL_law_808 (lv_at hl 5 rfl) ?_
  refine lv_iconst (v := nI 1) hx hb dL_law_810 (by decide +kernel) ?_
  refine lv_iadd hx hb dL_law_811 ?_
  refine k_as (nI_add _ _) ?_
  refine k_sld hx hb hsc hbl hbA hS (v := nI z) (by omega) hL e1 dL_law_812 ?_
  refine kCallS_i (mc := 0) (ms := 0) (W1 := fun _ : Unit => wM cI cZ y Lo Se Em gp gi am li dl (rK μ) (rT μ) (rE μ) (rD μ) (rF μ) (rS μ) (rC μ) Hm (nI 0)) (fun _ _ h => h) hP hD hS hA (fun _ => rfl) (va_runV (As := [.int (nI z)]) (rest := []) ⟨hx, hb, hml, hown, hts⟩ (c_X3_temperature_ok l D cI cZ cO cJ y Lo Se Em gp gi am li dl (rK μ) (rT μ) (rE μ) (rD μ) (rF μ) (rS μ) (rC μ) Hm th z H.size hz) (cwV (rm := rmX3_temperature) 1 hts gL_law_X3_temperature rfl rfl rfl (by decide +kernel) ⟨Nat.le_of_ble_eq_true rfl, Nat.le_of_ble_eq_true rfl⟩) (kPreVW hK hN (sfP hP) (sfD hD) (va_recv hK (sfP hP) (ci := 3) (q0 := 0) rfl rfl)) rfl rfl hl.1 rfl (lv_room (Nat.le_of_ble_eq_true rfl)) dL_law_813 ⟨by show _ ≤ 653765; omega, by show _ ≤ 7134809; omega⟩) (fun r9 u2 H locs hr9 hP hD hS => ?_)
  subst hr9
  have hP : va_P D vwCl ((wC cI cZ cO x a t b ck Ho (sT σ) (sE σ) (sD σ) (sF σ) (sS σ) (sC σ) (sL σ) (sT ρ) (sE ρ) (sD ρ) (sF ρ) (sS ρ) (sC ρ) (sL ρ) Lo Se Ef gp gi am li dl ++ [(o, .inl (cJ, 1, .inr (.inl (vp_updL g 0 (((sT σ) z)).toInt64))))]) ++ wM cI cZ y Lo Se Em gp gi am li dl (rK μ) (rT μ) (rE μ) (rD μ) (rF μ) (rS μ) (rC μ) Hm (nI 0)) H := hP
  have hD : va_D A ((wC cI cZ cO x a t b ck Ho (sT σ) (sE σ) (sD σ) (sF σ) (sS σ) (sC σ) (sL σ) (sT ρ) (sE ρ) (sD ρ) (sF ρ) (sS ρ) (sC ρ) (sL ρ) Lo Se Ef gp gi am li dl ++ [(o, .inl (cJ, 1, .inr (.inl (vp_updL g 0 (((sT σ) z)).toInt64))))]) ++ wM cI cZ y Lo Se Em gp gi am li dl (rK μ) (rT μ) (rE μ) (rD μ) (rF μ) (rS μ) (rC μ) Hm (nI 0)) := hD
  refine lv_istore (lv' := [(6, .int ((rT μ) z)), (5, .int (nI 0)), (0, .ref bs), (1, .ref (x 0)), (2, .ref (y 0)), (3, .ref o), (4, .int (nI i))]) hx hb dL_law_816 hl (by decide) rfl (fun ls hl => ?_)
  refine lv_aload_n hx hb dL_law_818 rfl (lv_at hl 4 rfl) ?_
  refine kCallS_i (mc := 0) (ms := 0) (W1 := fun _ : Unit => wM cI cZ y Lo Se Em gp gi am li dl (rK μ) (rT μ) (rE μ) (rD μ) (rF μ) (rS μ) (rC μ) Hm (nI 0)) (fun _ _ h => h) hP hD hS hA (fun _ => rfl) (va_runV (As := []) (rest := []) ⟨hx, hb, hml, hown, hts⟩ (c_X3_thrown l D cI cZ cO cJ y Lo Se Em gp gi am li dl (rK μ) (rT μ) (rE μ) (rD μ) (rF μ) (rS μ) (rC μ) Hm (nI 0) H.size) (cwV (rm := rmX3_thrown) 0 hts gL_law_X3_thrown rfl rfl rfl (by decide +kernel) ⟨Nat.le_of_ble_eq_true rfl, Nat.le_of_ble_eq_true rfl⟩) (kPreVW hK hN (sfP hP) (sfD hD) (va_recv hK (sfP hP) (ci := 3) (q0 := 0) rfl rfl)) rfl rfl hl.1 rfl (lv_room (Nat.le_of_ble_eq_true rfl)) dL_law_819 ⟨by show _ ≤ 653765; omega, by show _ ≤ 7134809; omega⟩) (fun r9 u3 H locs hr9 hP hD hS => ?_)
  subst hr9
  have hP : va_P D vwCl ((wC cI cZ cO x a t b ck Ho (sT σ) (sE σ) (sD σ) (sF σ) (sS σ) (sC σ) (sL σ) (sT ρ) (sE ρ) (sD ρ) (sF ρ) (sS ρ) (sC ρ) (sL ρ) Lo Se Ef gp gi am li dl ++ [(o, .inl (cJ, 1, .inr (.inl (vp_updL g 0 (((sT σ) z)).toInt64))))]) ++ wM cI cZ y Lo Se Em gp gi am li dl (rK μ) (rT μ) (rE μ) (rD μ) (rF μ) (rS μ) (rC μ) Hm (nI 0)) H := hP
  have hD : va_D A ((wC cI cZ cO x a t b ck Ho (sT σ) (sE σ) (sD σ) (sF σ) (sS σ) (sC σ) (sL σ) (sT ρ) (sE ρ) (sD ρ) (sF ρ) (sS ρ) (sC ρ) (sL ρ) Lo Se Ef gp gi am li dl ++ [(o, .inl (cJ, 1, .inr (.inl (vp_updL g 0 (((sT σ) z)).toInt64))))]) ++ wM cI cZ y Lo Se Em gp gi am li dl (rK μ) (rT μ) (rE μ) (rD μ) (rF μ) (rS μ) (rC μ) Hm (nI 0)) := hD
  refine lv_iload hx hb dL_law_822 (lv_at hl 1 rfl) ?_
  refine lv_icmp_eq (tgt := 829) hx hb dL_law_824 (by decide) (fun _ => ?_) (fun c9 => absurd rfl c9)
  refine lv_iload hx hb dL_law_829 (lv_at hl 1 rfl) ?_
  refine lv_if_ne (tgt := 846) hx hb dL_law_831 (by decide) (fun c9 => absurd rfl c9) (fun _ => ?_)
  refine lv_aload_n hx hb dL_law_834 rfl (lv_at hl 5 rfl) ?_
  refine lv_iconst (v := nI 0) hx hb dL_law_835 (by decide +kernel) ?_
  refine k_laldS hx hb hK 3 rfl hP dL_law_836 ?_
  refine lv_iload hx hb dL_law_837 (lv_at hl 0 rfl) ?_
  refine lv_i2l hx hb dL_law_839 rfl ?_
  refine k_lcmp0 (pk_uLs.trans (congrArg Int32.toInt64 (rel0_T hI.1 hz).symm)) hx hb dL_law_840 ?_
  refine lv_if_eq (tgt := 846) hx hb dL_law_841 (by decide) (fun _ => ?_) (fun c9 => absurd rfl c9)
  refine lv_goto (tgt := 1234) hx hb dL_law_846 (by decide) ?_
  refine lv_iinc (v := nI (i + 4)) (lv' := [(4, .int (nI (i + 4))), (6, .int ((rT μ) z)), (5, .int (nI 0)), (0, .ref bs), (1, .ref (x 0)), (2, .ref (y 0)), (3, .ref o)]) hx hb dL_law_1234 hl (k := 6) rfl (nI_add _ 4) (by decide) rfl (fun ls hl => ?_)
  refine lv_goto (tgt := 23) hx hb dL_law_1237 (by decide) ?_
  refine W.widen (k := cl + 1) (n := sl + 6) (by omega) (by omega) ?_
  exact kk σ ρ μ ck Ho Hm Lo Se Em Ef gp gi am li dl _ _ hI H locs hP hD hS ls (lv_sub hl [3, 4, 5, 6, 0] rfl)

set_option maxHeartbeats 4000000 in
set_option maxRecDepth 100000 in
theorem lb_temperature_bad (h : ¬ inR (xs (i + 1)) (nI 0) (nI 5)) (h0 : LC p l s m args c D cI cZ cO cJ bs L xs A) (hi : i + 4 ≤ L) (hcl : cl + 1 ≤ 653765) (hsl : sl + 6 ≤ 7134809) (hI : LI σ μ ck Ho Hm Lo Se Em Ef gp gi am dl) (hP : va_P D vwCl (wL cI cZ cO cJ x a t b y o σ ρ μ ck Ho Hm Lo Se Em Ef gp gi am li dl g th) H) (hD : va_D A (wL cI cZ cO cJ x a t b y o σ ρ μ ck Ho Hm Lo Se Em Ef gp gi am li dl g th)) (hS : va_S A s.heap H locs) (hl : lv_has ls 7 [(0, .ref bs), (1, .ref (x 0)), (2, .ref (y 0)), (3, .ref o), (4, .int (nI i))]) (kk : Hd p l e s m args below meth c D cI cZ cO cJ x a t b y o bs A Q (i + 4) (cl + 1) (sl + 6)) : W p l e room_1 s m args below meth c H locs cl sl Q (F0 m 793 ls []) := by
  obtain ⟨hx, hb, hml, hts, hown, hK, hN, hX, hC, hA, hsc, hbl, hbA, hst, hL⟩ := h0
  refine lv_aload_n hx hb dL_law_793 rfl (lv_at hl 1 rfl) ?_
  refine lv_aload_n hx hb dL_law_794 rfl (lv_at hl 0 rfl) ?_
  refine lv_iload hx hb dL_law_795 (lv_at hl 4 rfl) ?_
  refine lv_iconst (v := nI 1) hx hb dL_law_797 (by decide +kernel) ?_
  refine lv_iadd hx hb dL_law_798 ?_
  refine k_as (nI_add _ _) ?_
  refine k_sld hx hb hsc hbl hbA hS (v := xs (i + 1)) (by omega) hL rfl dL_law_799 ?_
  refine lv_aload_n hx hb dL_law_800 rfl (lv_at hl 3 rfl) ?_
  refine kCallP_i (mc := 1) (ms := 6) (W1 := fun _ : Unit => wC cI cZ cO x a t b ck Ho (sT σ) (sE σ) (sD σ) (sF σ) (sS σ) (sC σ) (sL σ) (sT ρ) (sE ρ) (sD ρ) (sF ρ) (sS ρ) (sC ρ) (sL ρ) Lo Se Ef gp gi am li dl ++ [(o, .inl (cJ, 1, .inr (.inl g)))]) (fun _ _ h => h) hP hD hS hA (fun _ => rfl) (vx_runSW (As := [.ref (x 0), .int (xs (i + 1)), .ref o]) (rest := []) ⟨hx, hb, hml, hown, hts⟩ (c_L_temperature_bad l hst D cI cZ cO cJ x a t b ck Ho (sT σ) (sE σ) (sD σ) (sF σ) (sS σ) (sC σ) (sL σ) (sT ρ) (sE ρ) (sD ρ) (sF ρ) (sS ρ) (sC ρ) (sL ρ) Lo Se Ef gp gi am li dl (xs (i + 1)) o g H.size h) (vx_cwSW (rm := rxL_temperature) 3 hts gL_law_L_temperature rfl rfl rfl (by decide +kernel) ⟨Nat.le_of_ble_eq_true rfl, Nat.le_of_ble_eq_true rfl⟩) (kPreSHW hK hN hX hC (pfP hP) (pfD hD) hS (kfree (pfD hD) hS hA)) rfl rfl hl.1 rfl (lv_room (Nat.le_of_ble_eq_true rfl)) dL_law_801 ⟨by show _ ≤ 653765; omega, by show _ ≤ 7134809; omega⟩) (fun r9 u H locs hr9 hP hD hS => ?_)
  subst hr9
  have hP : va_P D vwCl ((wC cI cZ cO x a t b ck Ho (sT σ) (sE σ) (sD σ) (sF σ) (sS σ) (sC σ) (sL σ) (sT ρ) (sE ρ) (sD ρ) (sF ρ) (sS ρ) (sC ρ) (sL ρ) Lo Se Ef gp gi am li dl ++ [(o, .inl (cJ, 1, .inr (.inl g)))]) ++ wM cI cZ y Lo Se Em gp gi am li dl (rK μ) (rT μ) (rE μ) (rD μ) (rF μ) (rS μ) (rC μ) Hm th) H := hP
  have hD : va_D A ((wC cI cZ cO x a t b ck Ho (sT σ) (sE σ) (sD σ) (sF σ) (sS σ) (sC σ) (sL σ) (sT ρ) (sE ρ) (sD ρ) (sF ρ) (sS ρ) (sC ρ) (sL ρ) Lo Se Ef gp gi am li dl ++ [(o, .inl (cJ, 1, .inr (.inl g)))]) ++ wM cI cZ y Lo Se Em gp gi am li dl (rK μ) (rT μ) (rE μ) (rD μ) (rF μ) (rS μ) (rC μ) Hm th) := hD
  refine lv_istore (lv' := [(5, .int (nI 1)), (0, .ref bs), (1, .ref (x 0)), (2, .ref (y 0)), (3, .ref o), (4, .int (nI i))]) hx hb dL_law_804 hl (by decide) rfl (fun ls hl => ?_)
  refine lv_aload_n hx hb dL_law_806 rfl (lv_at hl 3 rfl) ?_
  refine lv_aload_n hx hb dL_law_807 rfl (lv_at hl 1 rfl) ?_
  refine lv_iload hx hb dL_law_808 (lv_at hl 5 rfl) ?_
  refine lv_iconst (v := nI 1) hx hb dL_law_810 (by decide +kernel) ?_
  refine lv_iadd hx hb dL_law_811 ?_
  refine k_as (nI_add _ _) ?_
  refine k_sld hx hb hsc hbl hbA hS (v := xs (i + 1)) (by omega) hL rfl dL_law_812 ?_
  refine kCallS_i (mc := 0) (ms := 0) (W1 := fun _ : Unit => wM cI cZ y Lo Se Em gp gi am li dl (rK μ) (rT μ) (rE μ) (rD μ) (rF μ) (rS μ) (rC μ) Hm (nI 1)) (fun _ _ h => h) hP hD hS hA (fun _ => rfl) (va_runV (As := [.int (xs (i + 1))]) (rest := []) ⟨hx, hb, hml, hown, hts⟩ (c_X3_temperature_bad l D cI cZ cO cJ y Lo Se Em gp gi am li dl (rK μ) (rT μ) (rE μ) (rD μ) (rF μ) (rS μ) (rC μ) Hm th (xs (i + 1)) H.size h) (cwV (rm := rmX3_temperature) 1 hts gL_law_X3_temperature rfl rfl rfl (by decide +kernel) ⟨Nat.le_of_ble_eq_true rfl, Nat.le_of_ble_eq_true rfl⟩) (kPreVW hK hN (sfP hP) (sfD hD) (va_recv hK (sfP hP) (ci := 3) (q0 := 0) rfl rfl)) rfl rfl hl.1 rfl (lv_room (Nat.le_of_ble_eq_true rfl)) dL_law_813 ⟨by show _ ≤ 653765; omega, by show _ ≤ 7134809; omega⟩) (fun r9 u2 H locs hr9 hP hD hS => ?_)
  subst hr9
  have hP : va_P D vwCl ((wC cI cZ cO x a t b ck Ho (sT σ) (sE σ) (sD σ) (sF σ) (sS σ) (sC σ) (sL σ) (sT ρ) (sE ρ) (sD ρ) (sF ρ) (sS ρ) (sC ρ) (sL ρ) Lo Se Ef gp gi am li dl ++ [(o, .inl (cJ, 1, .inr (.inl g)))]) ++ wM cI cZ y Lo Se Em gp gi am li dl (rK μ) (rT μ) (rE μ) (rD μ) (rF μ) (rS μ) (rC μ) Hm (nI 1)) H := hP
  have hD : va_D A ((wC cI cZ cO x a t b ck Ho (sT σ) (sE σ) (sD σ) (sF σ) (sS σ) (sC σ) (sL σ) (sT ρ) (sE ρ) (sD ρ) (sF ρ) (sS ρ) (sC ρ) (sL ρ) Lo Se Ef gp gi am li dl ++ [(o, .inl (cJ, 1, .inr (.inl g)))]) ++ wM cI cZ y Lo Se Em gp gi am li dl (rK μ) (rT μ) (rE μ) (rD μ) (rF μ) (rS μ) (rC μ) Hm (nI 1)) := hD
  refine lv_istore (lv' := [(6, .int (nI 0)), (5, .int (nI 1)), (0, .ref bs), (1, .ref (x 0)), (2, .ref (y 0)), (3, .ref o), (4, .int (nI i))]) hx hb dL_law_816 hl (by decide) rfl (fun ls hl => ?_)
  refine lv_aload_n hx hb dL_law_818 rfl (lv_at hl 4 rfl) ?_
  refine kCallS_i (mc := 0) (ms := 0) (W1 := fun _ : Unit => wM cI cZ y Lo Se Em gp gi am li dl (rK μ) (rT μ) (rE μ) (rD μ) (rF μ) (rS μ) (rC μ) Hm (nI 1)) (fun _ _ h => h) hP hD hS hA (fun _ => rfl) (va_runV (As := []) (rest := []) ⟨hx, hb, hml, hown, hts⟩ (c_X3_thrown l D cI cZ cO cJ y Lo Se Em gp gi am li dl (rK μ) (rT μ) (rE μ) (rD μ) (rF μ) (rS μ) (rC μ) Hm (nI 1) H.size) (cwV (rm := rmX3_thrown) 0 hts gL_law_X3_thrown rfl rfl rfl (by decide +kernel) ⟨Nat.le_of_ble_eq_true rfl, Nat.le_of_ble_eq_true rfl⟩) (kPreVW hK hN (sfP hP) (sfD hD) (va_recv hK (sfP hP) (ci := 3) (q0 := 0) rfl rfl)) rfl rfl hl.1 rfl (lv_room (Nat.le_of_ble_eq_true rfl)) dL_law_819 ⟨by show _ ≤ 653765; omega, by show _ ≤ 7134809; omega⟩) (fun r9 u3 H locs hr9 hP hD hS => ?_)
  subst hr9
  have hP : va_P D vwCl ((wC cI cZ cO x a t b ck Ho (sT σ) (sE σ) (sD σ) (sF σ) (sS σ) (sC σ) (sL σ) (sT ρ) (sE ρ) (sD ρ) (sF ρ) (sS ρ) (sC ρ) (sL ρ) Lo Se Ef gp gi am li dl ++ [(o, .inl (cJ, 1, .inr (.inl g)))]) ++ wM cI cZ y Lo Se Em gp gi am li dl (rK μ) (rT μ) (rE μ) (rD μ) (rF μ) (rS μ) (rC μ) Hm (nI 1)) H := hP
  have hD : va_D A ((wC cI cZ cO x a t b ck Ho (sT σ) (sE σ) (sD σ) (sF σ) (sS σ) (sC σ) (sL σ) (sT ρ) (sE ρ) (sD ρ) (sF ρ) (sS ρ) (sC ρ) (sL ρ) Lo Se Ef gp gi am li dl ++ [(o, .inl (cJ, 1, .inr (.inl g)))]) ++ wM cI cZ y Lo Se Em gp gi am li dl (rK μ) (rT μ) (rE μ) (rD μ) (rF μ) (rS μ) (rC μ) Hm (nI 1)) := hD
  refine lv_iload hx hb dL_law_822 (lv_at hl 1 rfl) ?_
  refine lv_icmp_eq (tgt := 829) hx hb dL_law_824 (by decide) (fun _ => ?_) (fun c9 => absurd rfl c9)
  refine lv_iload hx hb dL_law_829 (lv_at hl 1 rfl) ?_
  refine lv_if_ne (tgt := 846) hx hb dL_law_831 (by decide) (fun _ => ?_) (fun c9 => absurd c9 (by decide))
  refine lv_goto (tgt := 1234) hx hb dL_law_846 (by decide) ?_
  refine lv_iinc (v := nI (i + 4)) (lv' := [(4, .int (nI (i + 4))), (6, .int (nI 0)), (5, .int (nI 1)), (0, .ref bs), (1, .ref (x 0)), (2, .ref (y 0)), (3, .ref o)]) hx hb dL_law_1234 hl (k := 6) rfl (nI_add _ 4) (by decide) rfl (fun ls hl => ?_)
  refine lv_goto (tgt := 23) hx hb dL_law_1237 (by decide) ?_
  refine W.widen (k := cl + 1) (n := sl + 6) (by omega) (by omega) ?_
  exact kk σ ρ μ ck Ho Hm Lo Se Em Ef gp gi am li dl _ _ hI H locs hP hD hS ls (lv_sub hl [3, 4, 5, 6, 0] rfl)

set_option maxHeartbeats 4000000 in
set_option maxRecDepth 100000 in
theorem lb_demand_ok (z : Nat) (e1 : xs (i + 1) = nI z) (hz : z < 6) (h0 : LC p l s m args c D cI cZ cO cJ bs L xs A) (hi : i + 4 ≤ L) (hcl : cl + 1 ≤ 653765) (hsl : sl + 6 ≤ 7134809) (hI : LI σ μ ck Ho Hm Lo Se Em Ef gp gi am dl) (hP : va_P D vwCl (wL cI cZ cO cJ x a t b y o σ ρ μ ck Ho Hm Lo Se Em Ef gp gi am li dl g th) H) (hD : va_D A (wL cI cZ cO cJ x a t b y o σ ρ μ ck Ho Hm Lo Se Em Ef gp gi am li dl g th)) (hS : va_S A s.heap H locs) (hl : lv_has ls 7 [(0, .ref bs), (1, .ref (x 0)), (2, .ref (y 0)), (3, .ref o), (4, .int (nI i))]) (kk : Hd p l e s m args below meth c D cI cZ cO cJ x a t b y o bs A Q (i + 4) (cl + 1) (sl + 6)) : W p l e room_1 s m args below meth c H locs cl sl Q (F0 m 849 ls []) := by
  obtain ⟨hx, hb, hml, hts, hown, hK, hN, hX, hC, hA, hsc, hbl, hbA, hst, hL⟩ := h0
  refine lv_aload_n hx hb dL_law_849 rfl (lv_at hl 1 rfl) ?_
  refine lv_aload_n hx hb dL_law_850 rfl (lv_at hl 0 rfl) ?_
  refine lv_iload hx hb dL_law_851 (lv_at hl 4 rfl) ?_
  refine lv_iconst (v := nI 1) hx hb dL_law_853 (by decide +kernel) ?_
  refine lv_iadd hx hb dL_law_854 ?_
  refine k_as (nI_add _ _) ?_
  refine k_sld hx hb hsc hbl hbA hS (v := nI z) (by omega) hL e1 dL_law_855 ?_
  refine lv_aload_n hx hb dL_law_856 rfl (lv_at hl 3 rfl) ?_
  refine kCallP_i (mc := 0) (ms := 0) (W1 := fun _ : Unit => wC cI cZ cO x a t b ck Ho (sT σ) (sE σ) (sD σ) (sF σ) (sS σ) (sC σ) (sL σ) (sT ρ) (sE ρ) (sD ρ) (sF ρ) (sS ρ) (sC ρ) (sL ρ) Lo Se Ef gp gi am li dl ++ [(o, .inl (cJ, 1, .inr (.inl (vp_updL g 0 (((sD σ) z)).toInt64))))]) (fun _ _ h => h) hP hD hS hA (fun _ => rfl) (vx_runSW (As := [.ref (x 0), .int (nI z), .ref o]) (rest := []) ⟨hx, hb, hml, hown, hts⟩ (c_L_demand l D cI cZ cO cJ x a t b ck Ho (sT σ) (sE σ) (sD σ) (sF σ) (sS σ) (sC σ) (sL σ) (sT ρ) (sE ρ) (sD ρ) (sF ρ) (sS ρ) (sC ρ) (sL ρ) Lo Se Ef gp gi am li dl z o g H.size hz) (vx_cwSW (rm := rmL_demand) 3 hts gL_law_L_demand rfl rfl rfl (by decide +kernel) ⟨Nat.le_of_ble_eq_true rfl, Nat.le_of_ble_eq_true rfl⟩) (kPreSHW hK hN hX hC (pfP hP) (pfD hD) hS (kfree (pfD hD) hS hA)) rfl rfl hl.1 rfl (lv_room (Nat.le_of_ble_eq_true rfl)) dL_law_857 ⟨by show _ ≤ 653765; omega, by show _ ≤ 7134809; omega⟩) (fun r9 u H locs hr9 hP hD hS => ?_)
  subst hr9
  have hP : va_P D vwCl ((wC cI cZ cO x a t b ck Ho (sT σ) (sE σ) (sD σ) (sF σ) (sS σ) (sC σ) (sL σ) (sT ρ) (sE ρ) (sD ρ) (sF ρ) (sS ρ) (sC ρ) (sL ρ) Lo Se Ef gp gi am li dl ++ [(o, .inl (cJ, 1, .inr (.inl (vp_updL g 0 (((sD σ) z)).toInt64))))]) ++ wM cI cZ y Lo Se Em gp gi am li dl (rK μ) (rT μ) (rE μ) (rD μ) (rF μ) (rS μ) (rC μ) Hm th) H := hP
  have hD : va_D A ((wC cI cZ cO x a t b ck Ho (sT σ) (sE σ) (sD σ) (sF σ) (sS σ) (sC σ) (sL σ) (sT ρ) (sE ρ) (sD ρ) (sF ρ) (sS ρ) (sC ρ) (sL ρ) Lo Se Ef gp gi am li dl ++ [(o, .inl (cJ, 1, .inr (.inl (vp_updL g 0 (((sD σ) z)).toInt64))))]) ++ wM cI cZ y Lo Se Em gp gi am li dl (rK μ) (rT μ) (rE μ) (rD μ) (rF μ) (rS μ) (rC μ) Hm th) := hD
  refine lv_istore (lv' := [(5, .int (nI 0)), (0, .ref bs), (1, .ref (x 0)), (2, .ref (y 0)), (3, .ref o), (4, .int (nI i))]) hx hb dL_law_860 hl (by decide) rfl (fun ls hl => ?_)
  refine lv_aload_n hx hb dL_law_862 rfl (lv_at hl 3 rfl) ?_
  refine lv_aload_n hx hb dL_law_863 rfl (lv_at hl 1 rfl) ?_
  refine lv_iload hx hb dL_law_864 (lv_at hl 5 rfl) ?_
  refine lv_iconst (v := nI 1) hx hb dL_law_866 (by decide +kernel) ?_
  refine lv_iadd hx hb dL_law_867 ?_
  refine k_as (nI_add _ _) ?_
  refine k_sld hx hb hsc hbl hbA hS (v := nI z) (by omega) hL e1 dL_law_868 ?_
  refine kCallS_i (mc := 0) (ms := 0) (W1 := fun _ : Unit => wM cI cZ y Lo Se Em gp gi am li dl (rK μ) (rT μ) (rE μ) (rD μ) (rF μ) (rS μ) (rC μ) Hm (nI 0)) (fun _ _ h => h) hP hD hS hA (fun _ => rfl) (va_runV (As := [.int (nI z)]) (rest := []) ⟨hx, hb, hml, hown, hts⟩ (c_X3_demand_ok l D cI cZ cO cJ y Lo Se Em gp gi am li dl (rK μ) (rT μ) (rE μ) (rD μ) (rF μ) (rS μ) (rC μ) Hm th z H.size hz) (cwV (rm := rmX3_demand) 1 hts gL_law_X3_demand rfl rfl rfl (by decide +kernel) ⟨Nat.le_of_ble_eq_true rfl, Nat.le_of_ble_eq_true rfl⟩) (kPreVW hK hN (sfP hP) (sfD hD) (va_recv hK (sfP hP) (ci := 3) (q0 := 0) rfl rfl)) rfl rfl hl.1 rfl (lv_room (Nat.le_of_ble_eq_true rfl)) dL_law_869 ⟨by show _ ≤ 653765; omega, by show _ ≤ 7134809; omega⟩) (fun r9 u2 H locs hr9 hP hD hS => ?_)
  subst hr9
  have hP : va_P D vwCl ((wC cI cZ cO x a t b ck Ho (sT σ) (sE σ) (sD σ) (sF σ) (sS σ) (sC σ) (sL σ) (sT ρ) (sE ρ) (sD ρ) (sF ρ) (sS ρ) (sC ρ) (sL ρ) Lo Se Ef gp gi am li dl ++ [(o, .inl (cJ, 1, .inr (.inl (vp_updL g 0 (((sD σ) z)).toInt64))))]) ++ wM cI cZ y Lo Se Em gp gi am li dl (rK μ) (rT μ) (rE μ) (rD μ) (rF μ) (rS μ) (rC μ) Hm (nI 0)) H := hP
  have hD : va_D A ((wC cI cZ cO x a t b ck Ho (sT σ) (sE σ) (sD σ) (sF σ) (sS σ) (sC σ) (sL σ) (sT ρ) (sE ρ) (sD ρ) (sF ρ) (sS ρ) (sC ρ) (sL ρ) Lo Se Ef gp gi am li dl ++ [(o, .inl (cJ, 1, .inr (.inl (vp_updL g 0 (((sD σ) z)).toInt64))))]) ++ wM cI cZ y Lo Se Em gp gi am li dl (rK μ) (rT μ) (rE μ) (rD μ) (rF μ) (rS μ) (rC μ) Hm (nI 0)) := hD
  refine lv_istore (lv' := [(6, .int ((rD μ) z)), (5, .int (nI 0)), (0, .ref bs), (1, .ref (x 0)), (2, .ref (y 0)), (3, .ref o), (4, .int (nI i))]) hx hb dL_law_872 hl (by decide) rfl (fun ls hl => ?_)
  refine lv_aload_n hx hb dL_law_874 rfl (lv_at hl 4 rfl) ?_
  refine kCallS_i (mc := 0) (ms := 0) (W1 := fun _ : Unit => wM cI cZ y Lo Se Em gp gi am li dl (rK μ) (rT μ) (rE μ) (rD μ) (rF μ) (rS μ) (rC μ) Hm (nI 0)) (fun _ _ h => h) hP hD hS hA (fun _ => rfl) (va_runV (As := []) (rest := []) ⟨hx, hb, hml, hown, hts⟩ (c_X3_thrown l D cI cZ cO cJ y Lo Se Em gp gi am li dl (rK μ) (rT μ) (rE μ) (rD μ) (rF μ) (rS μ) (rC μ) Hm (nI 0) H.size) (cwV (rm := rmX3_thrown) 0 hts gL_law_X3_thrown rfl rfl rfl (by decide +kernel) ⟨Nat.le_of_ble_eq_true rfl, Nat.le_of_ble_eq_true rfl⟩) (kPreVW hK hN (sfP hP) (sfD hD) (va_recv hK (sfP hP) (ci := 3) (q0 := 0) rfl rfl)) rfl rfl hl.1 rfl (lv_room (Nat.le_of_ble_eq_true rfl)) dL_law_875 ⟨by show _ ≤ 653765; omega, by show _ ≤ 7134809; omega⟩) (fun r9 u3 H locs hr9 hP hD hS => ?_)
  subst hr9
  have hP : va_P D vwCl ((wC cI cZ cO x a t b ck Ho (sT σ) (sE σ) (sD σ) (sF σ) (sS σ) (sC σ) (sL σ) (sT ρ) (sE ρ) (sD ρ) (sF ρ) (sS ρ) (sC ρ) (sL ρ) Lo Se Ef gp gi am li dl ++ [(o, .inl (cJ, 1, .inr (.inl (vp_updL g 0 (((sD σ) z)).toInt64))))]) ++ wM cI cZ y Lo Se Em gp gi am li dl (rK μ) (rT μ) (rE μ) (rD μ) (rF μ) (rS μ) (rC μ) Hm (nI 0)) H := hP
  have hD : va_D A ((wC cI cZ cO x a t b ck Ho (sT σ) (sE σ) (sD σ) (sF σ) (sS σ) (sC σ) (sL σ) (sT ρ) (sE ρ) (sD ρ) (sF ρ) (sS ρ) (sC ρ) (sL ρ) Lo Se Ef gp gi am li dl ++ [(o, .inl (cJ, 1, .inr (.inl (vp_updL g 0 (((sD σ) z)).toInt64))))]) ++ wM cI cZ y Lo Se Em gp gi am li dl (rK μ) (rT μ) (rE μ) (rD μ) (rF μ) (rS μ) (rC μ) Hm (nI 0)) := hD
  refine lv_iload hx hb dL_law_878 (lv_at hl 1 rfl) ?_
  refine lv_icmp_eq (tgt := 885) hx hb dL_law_880 (by decide) (fun _ => ?_) (fun c9 => absurd rfl c9)
  refine lv_iload hx hb dL_law_885 (lv_at hl 1 rfl) ?_
  refine lv_if_ne (tgt := 902) hx hb dL_law_887 (by decide) (fun c9 => absurd rfl c9) (fun _ => ?_)
  refine lv_aload_n hx hb dL_law_890 rfl (lv_at hl 5 rfl) ?_
  refine lv_iconst (v := nI 0) hx hb dL_law_891 (by decide +kernel) ?_
  refine k_laldS hx hb hK 3 rfl hP dL_law_892 ?_
  refine lv_iload hx hb dL_law_893 (lv_at hl 0 rfl) ?_
  refine lv_i2l hx hb dL_law_895 rfl ?_
  refine k_lcmp0 (pk_uLs.trans (congrArg Int32.toInt64 (rel0_D hI.1 hz).symm)) hx hb dL_law_896 ?_
  refine lv_if_eq (tgt := 902) hx hb dL_law_897 (by decide) (fun _ => ?_) (fun c9 => absurd rfl c9)
  refine lv_goto (tgt := 1234) hx hb dL_law_902 (by decide) ?_
  refine lv_iinc (v := nI (i + 4)) (lv' := [(4, .int (nI (i + 4))), (6, .int ((rD μ) z)), (5, .int (nI 0)), (0, .ref bs), (1, .ref (x 0)), (2, .ref (y 0)), (3, .ref o)]) hx hb dL_law_1234 hl (k := 6) rfl (nI_add _ 4) (by decide) rfl (fun ls hl => ?_)
  refine lv_goto (tgt := 23) hx hb dL_law_1237 (by decide) ?_
  refine W.widen (k := cl + 1) (n := sl + 6) (by omega) (by omega) ?_
  exact kk σ ρ μ ck Ho Hm Lo Se Em Ef gp gi am li dl _ _ hI H locs hP hD hS ls (lv_sub hl [3, 4, 5, 6, 0] rfl)

set_option maxHeartbeats 4000000 in
set_option maxRecDepth 100000 in
theorem lb_demand_bad (h : ¬ inR (xs (i + 1)) (nI 0) (nI 5)) (h0 : LC p l s m args c D cI cZ cO cJ bs L xs A) (hi : i + 4 ≤ L) (hcl : cl + 1 ≤ 653765) (hsl : sl + 6 ≤ 7134809) (hI : LI σ μ ck Ho Hm Lo Se Em Ef gp gi am dl) (hP : va_P D vwCl (wL cI cZ cO cJ x a t b y o σ ρ μ ck Ho Hm Lo Se Em Ef gp gi am li dl g th) H) (hD : va_D A (wL cI cZ cO cJ x a t b y o σ ρ μ ck Ho Hm Lo Se Em Ef gp gi am li dl g th)) (hS : va_S A s.heap H locs) (hl : lv_has ls 7 [(0, .ref bs), (1, .ref (x 0)), (2, .ref (y 0)), (3, .ref o), (4, .int (nI i))]) (kk : Hd p l e s m args below meth c D cI cZ cO cJ x a t b y o bs A Q (i + 4) (cl + 1) (sl + 6)) : W p l e room_1 s m args below meth c H locs cl sl Q (F0 m 849 ls []) := by
  obtain ⟨hx, hb, hml, hts, hown, hK, hN, hX, hC, hA, hsc, hbl, hbA, hst, hL⟩ := h0
  refine lv_aload_n hx hb dL_law_849 rfl (lv_at hl 1 rfl) ?_
  refine lv_aload_n hx hb dL_law_850 rfl (lv_at hl 0 rfl) ?_
  refine lv_iload hx hb dL_law_851 (lv_at hl 4 rfl) ?_
  refine lv_iconst (v := nI 1) hx hb dL_law_853 (by decide +kernel) ?_
  refine lv_iadd hx hb dL_law_854 ?_
  refine k_as (nI_add _ _) ?_
  refine k_sld hx hb hsc hbl hbA hS (v := xs (i + 1)) (by omega) hL rfl dL_law_855 ?_
  refine lv_aload_n hx hb dL_law_856 rfl (lv_at hl 3 rfl) ?_
  refine kCallP_i (mc := 1) (ms := 6) (W1 := fun _ : Unit => wC cI cZ cO x a t b ck Ho (sT σ) (sE σ) (sD σ) (sF σ) (sS σ) (sC σ) (sL σ) (sT ρ) (sE ρ) (sD ρ) (sF ρ) (sS ρ) (sC ρ) (sL ρ) Lo Se Ef gp gi am li dl ++ [(o, .inl (cJ, 1, .inr (.inl g)))]) (fun _ _ h => h) hP hD hS hA (fun _ => rfl) (vx_runSW (As := [.ref (x 0), .int (xs (i + 1)), .ref o]) (rest := []) ⟨hx, hb, hml, hown, hts⟩ (c_L_demand_bad l hst D cI cZ cO cJ x a t b ck Ho (sT σ) (sE σ) (sD σ) (sF σ) (sS σ) (sC σ) (sL σ) (sT ρ) (sE ρ) (sD ρ) (sF ρ) (sS ρ) (sC ρ) (sL ρ) Lo Se Ef gp gi am li dl (xs (i + 1)) o g H.size h) (vx_cwSW (rm := rxL_demand) 3 hts gL_law_L_demand rfl rfl rfl (by decide +kernel) ⟨Nat.le_of_ble_eq_true rfl, Nat.le_of_ble_eq_true rfl⟩) (kPreSHW hK hN hX hC (pfP hP) (pfD hD) hS (kfree (pfD hD) hS hA)) rfl rfl hl.1 rfl (lv_room (Nat.le_of_ble_eq_true rfl)) dL_law_857 ⟨by show _ ≤ 653765; omega, by show _ ≤ 7134809; omega⟩) (fun r9 u H locs hr9 hP hD hS => ?_)
  subst hr9
  have hP : va_P D vwCl ((wC cI cZ cO x a t b ck Ho (sT σ) (sE σ) (sD σ) (sF σ) (sS σ) (sC σ) (sL σ) (sT ρ) (sE ρ) (sD ρ) (sF ρ) (sS ρ) (sC ρ) (sL ρ) Lo Se Ef gp gi am li dl ++ [(o, .inl (cJ, 1, .inr (.inl g)))]) ++ wM cI cZ y Lo Se Em gp gi am li dl (rK μ) (rT μ) (rE μ) (rD μ) (rF μ) (rS μ) (rC μ) Hm th) H := hP
  have hD : va_D A ((wC cI cZ cO x a t b ck Ho (sT σ) (sE σ) (sD σ) (sF σ) (sS σ) (sC σ) (sL σ) (sT ρ) (sE ρ) (sD ρ) (sF ρ) (sS ρ) (sC ρ) (sL ρ) Lo Se Ef gp gi am li dl ++ [(o, .inl (cJ, 1, .inr (.inl g)))]) ++ wM cI cZ y Lo Se Em gp gi am li dl (rK μ) (rT μ) (rE μ) (rD μ) (rF μ) (rS μ) (rC μ) Hm th) := hD
  refine lv_istore (lv' := [(5, .int (nI 1)), (0, .ref bs), (1, .ref (x 0)), (2, .ref (y 0)), (3, .ref o), (4, .int (nI i))]) hx hb dL_law_860 hl (by decide) rfl (fun ls hl => ?_)
  refine lv_aload_n hx hb dL_law_862 rfl (lv_at hl 3 rfl) ?_
  refine lv_aload_n hx hb dL_law_863 rfl (lv_at hl 1 rfl) ?_
  refine lv_iload hx hb dL_law_864 (lv_at hl 5 rfl) ?_
  refine lv_iconst (v := nI 1) hx hb dL_law_866 (by decide +kernel) ?_
  refine lv_iadd hx hb dL_law_867 ?_
  refine k_as (nI_add _ _) ?_
  refine k_sld hx hb hsc hbl hbA hS (v := xs (i + 1)) (by omega) hL rfl dL_law_868 ?_
  refine kCallS_i (mc := 0) (ms := 0) (W1 := fun _ : Unit => wM cI cZ y Lo Se Em gp gi am li dl (rK μ) (rT μ) (rE μ) (rD μ) (rF μ) (rS μ) (rC μ) Hm (nI 1)) (fun _ _ h => h) hP hD hS hA (fun _ => rfl) (va_runV (As := [.int (xs (i + 1))]) (rest := []) ⟨hx, hb, hml, hown, hts⟩ (c_X3_demand_bad l D cI cZ cO cJ y Lo Se Em gp gi am li dl (rK μ) (rT μ) (rE μ) (rD μ) (rF μ) (rS μ) (rC μ) Hm th (xs (i + 1)) H.size h) (cwV (rm := rmX3_demand) 1 hts gL_law_X3_demand rfl rfl rfl (by decide +kernel) ⟨Nat.le_of_ble_eq_true rfl, Nat.le_of_ble_eq_true rfl⟩) (kPreVW hK hN (sfP hP) (sfD hD) (va_recv hK (sfP hP) (ci := 3) (q0 := 0) rfl rfl)) rfl rfl hl.1 rfl (lv_room (Nat.le_of_ble_eq_true rfl)) dL_law_869 ⟨by show _ ≤ 653765; omega, by show _ ≤ 7134809; omega⟩) (fun r9 u2 H locs hr9 hP hD hS => ?_)
  subst hr9
  have hP : va_P D vwCl ((wC cI cZ cO x a t b ck Ho (sT σ) (sE σ) (sD σ) (sF σ) (sS σ) (sC σ) (sL σ) (sT ρ) (sE ρ) (sD ρ) (sF ρ) (sS ρ) (sC ρ) (sL ρ) Lo Se Ef gp gi am li dl ++ [(o, .inl (cJ, 1, .inr (.inl g)))]) ++ wM cI cZ y Lo Se Em gp gi am li dl (rK μ) (rT μ) (rE μ) (rD μ) (rF μ) (rS μ) (rC μ) Hm (nI 1)) H := hP
  have hD : va_D A ((wC cI cZ cO x a t b ck Ho (sT σ) (sE σ) (sD σ) (sF σ) (sS σ) (sC σ) (sL σ) (sT ρ) (sE ρ) (sD ρ) (sF ρ) (sS ρ) (sC ρ) (sL ρ) Lo Se Ef gp gi am li dl ++ [(o, .inl (cJ, 1, .inr (.inl g)))]) ++ wM cI cZ y Lo Se Em gp gi am li dl (rK μ) (rT μ) (rE μ) (rD μ) (rF μ) (rS μ) (rC μ) Hm (nI 1)) := hD
  refine lv_istore (lv' := [(6, .int (nI 0)), (5, .int (nI 1)), (0, .ref bs), (1, .ref (x 0)), (2, .ref (y 0)), (3, .ref o), (4, .int (nI i))]) hx hb dL_law_872 hl (by decide) rfl (fun ls hl => ?_)
  refine lv_aload_n hx hb dL_law_874 rfl (lv_at hl 4 rfl) ?_
  refine kCallS_i (mc := 0) (ms := 0) (W1 := fun _ : Unit => wM cI cZ y Lo Se Em gp gi am li dl (rK μ) (rT μ) (rE μ) (rD μ) (rF μ) (rS μ) (rC μ) Hm (nI 1)) (fun _ _ h => h) hP hD hS hA (fun _ => rfl) (va_runV (As := []) (rest := []) ⟨hx, hb, hml, hown, hts⟩ (c_X3_thrown l D cI cZ cO cJ y Lo Se Em gp gi am li dl (rK μ) (rT μ) (rE μ) (rD μ) (rF μ) (rS μ) (rC μ) Hm (nI 1) H.size) (cwV (rm := rmX3_thrown) 0 hts gL_law_X3_thrown rfl rfl rfl (by decide +kernel) ⟨Nat.le_of_ble_eq_true rfl, Nat.le_of_ble_eq_true rfl⟩) (kPreVW hK hN (sfP hP) (sfD hD) (va_recv hK (sfP hP) (ci := 3) (q0 := 0) rfl rfl)) rfl rfl hl.1 rfl (lv_room (Nat.le_of_ble_eq_true rfl)) dL_law_875 ⟨by show _ ≤ 653765; omega, by show _ ≤ 7134809; omega⟩) (fun r9 u3 H locs hr9 hP hD hS => ?_)
  subst hr9
  have hP : va_P D vwCl ((wC cI cZ cO x a t b ck Ho (sT σ) (sE σ) (sD σ) (sF σ) (sS σ) (sC σ) (sL σ) (sT ρ) (sE ρ) (sD ρ) (sF ρ) (sS ρ) (sC ρ) (sL ρ) Lo Se Ef gp gi am li dl ++ [(o, .inl (cJ, 1, .inr (.inl g)))]) ++ wM cI cZ y Lo Se Em gp gi am li dl (rK μ) (rT μ) (rE μ) (rD μ) (rF μ) (rS μ) (rC μ) Hm (nI 1)) H := hP
  have hD : va_D A ((wC cI cZ cO x a t b ck Ho (sT σ) (sE σ) (sD σ) (sF σ) (sS σ) (sC σ) (sL σ) (sT ρ) (sE ρ) (sD ρ) (sF ρ) (sS ρ) (sC ρ) (sL ρ) Lo Se Ef gp gi am li dl ++ [(o, .inl (cJ, 1, .inr (.inl g)))]) ++ wM cI cZ y Lo Se Em gp gi am li dl (rK μ) (rT μ) (rE μ) (rD μ) (rF μ) (rS μ) (rC μ) Hm (nI 1)) := hD
  refine lv_iload hx hb dL_law_878 (lv_at hl 1 rfl) ?_
  refine lv_icmp_eq (tgt := 885) hx hb dL_law_880 (by decide) (fun _ => ?_) (fun c9 => absurd rfl c9)
  refine lv_iload hx hb dL_law_885 (lv_at hl 1 rfl) ?_
  refine lv_if_ne (tgt := 902) hx hb dL_law_887 (by decide) (fun _ => ?_) (fun c9 => absurd c9 (by decide))
  refine lv_goto (tgt := 1234) hx hb dL_law_902 (by decide) ?_
  refine lv_iinc (v := nI (i + 4)) (lv' := [(4, .int (nI (i + 4))), (6, .int (nI 0)), (5, .int (nI 1)), (0, .ref bs), (1, .ref (x 0)), (2, .ref (y 0)), (3, .ref o)]) hx hb dL_law_1234 hl (k := 6) rfl (nI_add _ 4) (by decide) rfl (fun ls hl => ?_)
  refine lv_goto (tgt := 23) hx hb dL_law_1237 (by decide) ?_
  refine W.widen (k := cl + 1) (n := sl + 6) (by omega) (by omega) ?_
  exact kk σ ρ μ ck Ho Hm Lo Se Em Ef gp gi am li dl _ _ hI H locs hP hD hS ls (lv_sub hl [3, 4, 5, 6, 0] rfl)

set_option maxHeartbeats 4000000 in
set_option maxRecDepth 100000 in
theorem lb_errors_ok (z : Nat) (e1 : xs (i + 1) = nI z) (hz : z < 6) (h0 : LC p l s m args c D cI cZ cO cJ bs L xs A) (hi : i + 4 ≤ L) (hcl : cl + 1 ≤ 653765) (hsl : sl + 6 ≤ 7134809) (hI : LI σ μ ck Ho Hm Lo Se Em Ef gp gi am dl) (hP : va_P D vwCl (wL cI cZ cO cJ x a t b y o σ ρ μ ck Ho Hm Lo Se Em Ef gp gi am li dl g th) H) (hD : va_D A (wL cI cZ cO cJ x a t b y o σ ρ μ ck Ho Hm Lo Se Em Ef gp gi am li dl g th)) (hS : va_S A s.heap H locs) (hl : lv_has ls 7 [(0, .ref bs), (1, .ref (x 0)), (2, .ref (y 0)), (3, .ref o), (4, .int (nI i))]) (kk : Hd p l e s m args below meth c D cI cZ cO cJ x a t b y o bs A Q (i + 4) (cl + 1) (sl + 6)) : W p l e room_1 s m args below meth c H locs cl sl Q (F0 m 905 ls []) := by
  obtain ⟨hx, hb, hml, hts, hown, hK, hN, hX, hC, hA, hsc, hbl, hbA, hst, hL⟩ := h0
  refine lv_aload_n hx hb dL_law_905 rfl (lv_at hl 1 rfl) ?_
  refine lv_aload_n hx hb dL_law_906 rfl (lv_at hl 0 rfl) ?_
  refine lv_iload hx hb dL_law_907 (lv_at hl 4 rfl) ?_
  refine lv_iconst (v := nI 1) hx hb dL_law_909 (by decide +kernel) ?_
  refine lv_iadd hx hb dL_law_910 ?_
  refine k_as (nI_add _ _) ?_
  refine k_sld hx hb hsc hbl hbA hS (v := nI z) (by omega) hL e1 dL_law_911 ?_
  refine lv_aload_n hx hb dL_law_912 rfl (lv_at hl 3 rfl) ?_
  refine kCallP_i (mc := 0) (ms := 0) (W1 := fun _ : Unit => wC cI cZ cO x a t b ck Ho (sT σ) (sE σ) (sD σ) (sF σ) (sS σ) (sC σ) (sL σ) (sT ρ) (sE ρ) (sD ρ) (sF ρ) (sS ρ) (sC ρ) (sL ρ) Lo Se Ef gp gi am li dl ++ [(o, .inl (cJ, 1, .inr (.inl (vp_updL g 0 (((sE σ) z)).toInt64))))]) (fun _ _ h => h) hP hD hS hA (fun _ => rfl) (vx_runSW (As := [.ref (x 0), .int (nI z), .ref o]) (rest := []) ⟨hx, hb, hml, hown, hts⟩ (c_L_errors l D cI cZ cO cJ x a t b ck Ho (sT σ) (sE σ) (sD σ) (sF σ) (sS σ) (sC σ) (sL σ) (sT ρ) (sE ρ) (sD ρ) (sF ρ) (sS ρ) (sC ρ) (sL ρ) Lo Se Ef gp gi am li dl z o g H.size hz) (vx_cwSW (rm := rmL_errors) 3 hts gL_law_L_errors rfl rfl rfl (by decide +kernel) ⟨Nat.le_of_ble_eq_true rfl, Nat.le_of_ble_eq_true rfl⟩) (kPreSHW hK hN hX hC (pfP hP) (pfD hD) hS (kfree (pfD hD) hS hA)) rfl rfl hl.1 rfl (lv_room (Nat.le_of_ble_eq_true rfl)) dL_law_913 ⟨by show _ ≤ 653765; omega, by show _ ≤ 7134809; omega⟩) (fun r9 u H locs hr9 hP hD hS => ?_)
  subst hr9
  have hP : va_P D vwCl ((wC cI cZ cO x a t b ck Ho (sT σ) (sE σ) (sD σ) (sF σ) (sS σ) (sC σ) (sL σ) (sT ρ) (sE ρ) (sD ρ) (sF ρ) (sS ρ) (sC ρ) (sL ρ) Lo Se Ef gp gi am li dl ++ [(o, .inl (cJ, 1, .inr (.inl (vp_updL g 0 (((sE σ) z)).toInt64))))]) ++ wM cI cZ y Lo Se Em gp gi am li dl (rK μ) (rT μ) (rE μ) (rD μ) (rF μ) (rS μ) (rC μ) Hm th) H := hP
  have hD : va_D A ((wC cI cZ cO x a t b ck Ho (sT σ) (sE σ) (sD σ) (sF σ) (sS σ) (sC σ) (sL σ) (sT ρ) (sE ρ) (sD ρ) (sF ρ) (sS ρ) (sC ρ) (sL ρ) Lo Se Ef gp gi am li dl ++ [(o, .inl (cJ, 1, .inr (.inl (vp_updL g 0 (((sE σ) z)).toInt64))))]) ++ wM cI cZ y Lo Se Em gp gi am li dl (rK μ) (rT μ) (rE μ) (rD μ) (rF μ) (rS μ) (rC μ) Hm th) := hD
  refine lv_istore (lv' := [(5, .int (nI 0)), (0, .ref bs), (1, .ref (x 0)), (2, .ref (y 0)), (3, .ref o), (4, .int (nI i))]) hx hb dL_law_916 hl (by decide) rfl (fun ls hl => ?_)
  refine lv_aload_n hx hb dL_law_918 rfl (lv_at hl 3 rfl) ?_
  refine lv_aload_n hx hb dL_law_919 rfl (lv_at hl 1 rfl) ?_
  refine lv_iload hx hb dL_law_920 (lv_at hl 5 rfl) ?_
  refine lv_iconst (v := nI 1) hx hb dL_law_922 (by decide +kernel) ?_
  refine lv_iadd hx hb dL_law_923 ?_
  refine k_as (nI_add _ _) ?_
  refine k_sld hx hb hsc hbl hbA hS (v := nI z) (by omega) hL e1 dL_law_924 ?_
  refine kCallS_i (mc := 0) (ms := 0) (W1 := fun _ : Unit => wM cI cZ y Lo Se Em gp gi am li dl (rK μ) (rT μ) (rE μ) (rD μ) (rF μ) (rS μ) (rC μ) Hm (nI 0)) (fun _ _ h => h) hP hD hS hA (fun _ => rfl) (va_runV (As := [.int (nI z)]) (rest := []) ⟨hx, hb, hml, hown, hts⟩ (c_X3_errors_ok l D cI cZ cO cJ y Lo Se Em gp gi am li dl (rK μ) (rT μ) (rE μ) (rD μ) (rF μ) (rS μ) (rC μ) Hm th z H.size hz) (cwV (rm := rmX3_errors) 1 hts gL_law_X3_errors rfl rfl rfl (by decide +kernel) ⟨Nat.le_of_ble_eq_true rfl, Nat.le_of_ble_eq_true rfl⟩) (kPreVW hK hN (sfP hP) (sfD hD) (va_recv hK (sfP hP) (ci := 3) (q0 := 0) rfl rfl)) rfl rfl hl.1 rfl (lv_room (Nat.le_of_ble_eq_true rfl)) dL_law_925 ⟨by show _ ≤ 653765; omega, by show _ ≤ 7134809; omega⟩) (fun r9 u2 H locs hr9 hP hD hS => ?_)
  subst hr9
  have hP : va_P D vwCl ((wC cI cZ cO x a t b ck Ho (sT σ) (sE σ) (sD σ) (sF σ) (sS σ) (sC σ) (sL σ) (sT ρ) (sE ρ) (sD ρ) (sF ρ) (sS ρ) (sC ρ) (sL ρ) Lo Se Ef gp gi am li dl ++ [(o, .inl (cJ, 1, .inr (.inl (vp_updL g 0 (((sE σ) z)).toInt64))))]) ++ wM cI cZ y Lo Se Em gp gi am li dl (rK μ) (rT μ) (rE μ) (rD μ) (rF μ) (rS μ) (rC μ) Hm (nI 0)) H := hP
  have hD : va_D A ((wC cI cZ cO x a t b ck Ho (sT σ) (sE σ) (sD σ) (sF σ) (sS σ) (sC σ) (sL σ) (sT ρ) (sE ρ) (sD ρ) (sF ρ) (sS ρ) (sC ρ) (sL ρ) Lo Se Ef gp gi am li dl ++ [(o, .inl (cJ, 1, .inr (.inl (vp_updL g 0 (((sE σ) z)).toInt64))))]) ++ wM cI cZ y Lo Se Em gp gi am li dl (rK μ) (rT μ) (rE μ) (rD μ) (rF μ) (rS μ) (rC μ) Hm (nI 0)) := hD
  refine lv_istore (lv' := [(6, .int ((rE μ) z)), (5, .int (nI 0)), (0, .ref bs), (1, .ref (x 0)), (2, .ref (y 0)), (3, .ref o), (4, .int (nI i))]) hx hb dL_law_928 hl (by decide) rfl (fun ls hl => ?_)
  refine lv_aload_n hx hb dL_law_930 rfl (lv_at hl 4 rfl) ?_
  refine kCallS_i (mc := 0) (ms := 0) (W1 := fun _ : Unit => wM cI cZ y Lo Se Em gp gi am li dl (rK μ) (rT μ) (rE μ) (rD μ) (rF μ) (rS μ) (rC μ) Hm (nI 0)) (fun _ _ h => h) hP hD hS hA (fun _ => rfl) (va_runV (As := []) (rest := []) ⟨hx, hb, hml, hown, hts⟩ (c_X3_thrown l D cI cZ cO cJ y Lo Se Em gp gi am li dl (rK μ) (rT μ) (rE μ) (rD μ) (rF μ) (rS μ) (rC μ) Hm (nI 0) H.size) (cwV (rm := rmX3_thrown) 0 hts gL_law_X3_thrown rfl rfl rfl (by decide +kernel) ⟨Nat.le_of_ble_eq_true rfl, Nat.le_of_ble_eq_true rfl⟩) (kPreVW hK hN (sfP hP) (sfD hD) (va_recv hK (sfP hP) (ci := 3) (q0 := 0) rfl rfl)) rfl rfl hl.1 rfl (lv_room (Nat.le_of_ble_eq_true rfl)) dL_law_931 ⟨by show _ ≤ 653765; omega, by show _ ≤ 7134809; omega⟩) (fun r9 u3 H locs hr9 hP hD hS => ?_)
  subst hr9
  have hP : va_P D vwCl ((wC cI cZ cO x a t b ck Ho (sT σ) (sE σ) (sD σ) (sF σ) (sS σ) (sC σ) (sL σ) (sT ρ) (sE ρ) (sD ρ) (sF ρ) (sS ρ) (sC ρ) (sL ρ) Lo Se Ef gp gi am li dl ++ [(o, .inl (cJ, 1, .inr (.inl (vp_updL g 0 (((sE σ) z)).toInt64))))]) ++ wM cI cZ y Lo Se Em gp gi am li dl (rK μ) (rT μ) (rE μ) (rD μ) (rF μ) (rS μ) (rC μ) Hm (nI 0)) H := hP
  have hD : va_D A ((wC cI cZ cO x a t b ck Ho (sT σ) (sE σ) (sD σ) (sF σ) (sS σ) (sC σ) (sL σ) (sT ρ) (sE ρ) (sD ρ) (sF ρ) (sS ρ) (sC ρ) (sL ρ) Lo Se Ef gp gi am li dl ++ [(o, .inl (cJ, 1, .inr (.inl (vp_updL g 0 (((sE σ) z)).toInt64))))]) ++ wM cI cZ y Lo Se Em gp gi am li dl (rK μ) (rT μ) (rE μ) (rD μ) (rF μ) (rS μ) (rC μ) Hm (nI 0)) := hD
  refine lv_iload hx hb dL_law_934 (lv_at hl 1 rfl) ?_
  refine lv_icmp_eq (tgt := 941) hx hb dL_law_936 (by decide) (fun _ => ?_) (fun c9 => absurd rfl c9)
  refine lv_iload hx hb dL_law_941 (lv_at hl 1 rfl) ?_
  refine lv_if_ne (tgt := 958) hx hb dL_law_943 (by decide) (fun c9 => absurd rfl c9) (fun _ => ?_)
  refine lv_aload_n hx hb dL_law_946 rfl (lv_at hl 5 rfl) ?_
  refine lv_iconst (v := nI 0) hx hb dL_law_947 (by decide +kernel) ?_
  refine k_laldS hx hb hK 3 rfl hP dL_law_948 ?_
  refine lv_iload hx hb dL_law_949 (lv_at hl 0 rfl) ?_
  refine lv_i2l hx hb dL_law_951 rfl ?_
  refine k_lcmp0 (pk_uLs.trans (congrArg Int32.toInt64 (rel0_E hI.1 hz).symm)) hx hb dL_law_952 ?_
  refine lv_if_eq (tgt := 958) hx hb dL_law_953 (by decide) (fun _ => ?_) (fun c9 => absurd rfl c9)
  refine lv_goto (tgt := 1234) hx hb dL_law_958 (by decide) ?_
  refine lv_iinc (v := nI (i + 4)) (lv' := [(4, .int (nI (i + 4))), (6, .int ((rE μ) z)), (5, .int (nI 0)), (0, .ref bs), (1, .ref (x 0)), (2, .ref (y 0)), (3, .ref o)]) hx hb dL_law_1234 hl (k := 6) rfl (nI_add _ 4) (by decide) rfl (fun ls hl => ?_)
  refine lv_goto (tgt := 23) hx hb dL_law_1237 (by decide) ?_
  refine W.widen (k := cl + 1) (n := sl + 6) (by omega) (by omega) ?_
  exact kk σ ρ μ ck Ho Hm Lo Se Em Ef gp gi am li dl _ _ hI H locs hP hD hS ls (lv_sub hl [3, 4, 5, 6, 0] rfl)

set_option maxHeartbeats 4000000 in
set_option maxRecDepth 100000 in
theorem lb_errors_bad (h : ¬ inR (xs (i + 1)) (nI 0) (nI 5)) (h0 : LC p l s m args c D cI cZ cO cJ bs L xs A) (hi : i + 4 ≤ L) (hcl : cl + 1 ≤ 653765) (hsl : sl + 6 ≤ 7134809) (hI : LI σ μ ck Ho Hm Lo Se Em Ef gp gi am dl) (hP : va_P D vwCl (wL cI cZ cO cJ x a t b y o σ ρ μ ck Ho Hm Lo Se Em Ef gp gi am li dl g th) H) (hD : va_D A (wL cI cZ cO cJ x a t b y o σ ρ μ ck Ho Hm Lo Se Em Ef gp gi am li dl g th)) (hS : va_S A s.heap H locs) (hl : lv_has ls 7 [(0, .ref bs), (1, .ref (x 0)), (2, .ref (y 0)), (3, .ref o), (4, .int (nI i))]) (kk : Hd p l e s m args below meth c D cI cZ cO cJ x a t b y o bs A Q (i + 4) (cl + 1) (sl + 6)) : W p l e room_1 s m args below meth c H locs cl sl Q (F0 m 905 ls []) := by
  obtain ⟨hx, hb, hml, hts, hown, hK, hN, hX, hC, hA, hsc, hbl, hbA, hst, hL⟩ := h0
  refine lv_aload_n hx hb dL_law_905 rfl (lv_at hl 1 rfl) ?_
  refine lv_aload_n hx hb dL_law_906 rfl (lv_at hl 0 rfl) ?_
  refine lv_iload hx hb dL_law_907 (lv_at hl 4 rfl) ?_
  refine lv_iconst (v := nI 1) hx hb dL_law_909 (by decide +kernel) ?_
  refine lv_iadd hx hb dL_law_910 ?_
  refine k_as (nI_add _ _) ?_
  refine k_sld hx hb hsc hbl hbA hS (v := xs (i + 1)) (by omega) hL rfl dL_law_911 ?_
  refine lv_aload_n hx hb dL_law_912 rfl (lv_at hl 3 rfl) ?_
  refine kCallP_i (mc := 1) (ms := 6) (W1 := fun _ : Unit => wC cI cZ cO x a t b ck Ho (sT σ) (sE σ) (sD σ) (sF σ) (sS σ) (sC σ) (sL σ) (sT ρ) (sE ρ) (sD ρ) (sF ρ) (sS ρ) (sC ρ) (sL ρ) Lo Se Ef gp gi am li dl ++ [(o, .inl (cJ, 1, .inr (.inl g)))]) (fun _ _ h => h) hP hD hS hA (fun _ => rfl) (vx_runSW (As := [.ref (x 0), .int (xs (i + 1)), .ref o]) (rest := []) ⟨hx, hb, hml, hown, hts⟩ (c_L_errors_bad l hst D cI cZ cO cJ x a t b ck Ho (sT σ) (sE σ) (sD σ) (sF σ) (sS σ) (sC σ) (sL σ) (sT ρ) (sE ρ) (sD ρ) (sF ρ) (sS ρ) (sC ρ) (sL ρ) Lo Se Ef gp gi am li dl (xs (i + 1)) o g H.size h) (vx_cwSW (rm := rxL_errors) 3 hts gL_law_L_errors rfl rfl rfl (by decide +kernel) ⟨Nat.le_of_ble_eq_true rfl, Nat.le_of_ble_eq_true rfl⟩) (kPreSHW hK hN hX hC (pfP hP) (pfD hD) hS (kfree (pfD hD) hS hA)) rfl rfl hl.1 rfl (lv_room (Nat.le_of_ble_eq_true rfl)) dL_law_913 ⟨by show _ ≤ 653765; omega, by show _ ≤ 7134809; omega⟩) (fun r9 u H locs hr9 hP hD hS => ?_)
  subst hr9
  have hP : va_P D vwCl ((wC cI cZ cO x a t b ck Ho (sT σ) (sE σ) (sD σ) (sF σ) (sS σ) (sC σ) (sL σ) (sT ρ) (sE ρ) (sD ρ) (sF ρ) (sS ρ) (sC ρ) (sL ρ) Lo Se Ef gp gi am li dl ++ [(o, .inl (cJ, 1, .inr (.inl g)))]) ++ wM cI cZ y Lo Se Em gp gi am li dl (rK μ) (rT μ) (rE μ) (rD μ) (rF μ) (rS μ) (rC μ) Hm th) H := hP
  have hD : va_D A ((wC cI cZ cO x a t b ck Ho (sT σ) (sE σ) (sD σ) (sF σ) (sS σ) (sC σ) (sL σ) (sT ρ) (sE ρ) (sD ρ) (sF ρ) (sS ρ) (sC ρ) (sL ρ) Lo Se Ef gp gi am li dl ++ [(o, .inl (cJ, 1, .inr (.inl g)))]) ++ wM cI cZ y Lo Se Em gp gi am li dl (rK μ) (rT μ) (rE μ) (rD μ) (rF μ) (rS μ) (rC μ) Hm th) := hD
  refine lv_istore (lv' := [(5, .int (nI 1)), (0, .ref bs), (1, .ref (x 0)), (2, .ref (y 0)), (3, .ref o), (4, .int (nI i))]) hx hb dL_law_916 hl (by decide) rfl (fun ls hl => ?_)
  refine lv_aload_n hx hb dL_law_918 rfl (lv_at hl 3 rfl) ?_
  refine lv_aload_n hx hb dL_law_919 rfl (lv_at hl 1 rfl) ?_
  refine lv_iload hx hb dL_law_920 (lv_at hl 5 rfl) ?_
  refine lv_iconst (v := nI 1) hx hb dL_law_922 (by decide +kernel) ?_
  refine lv_iadd hx hb dL_law_923 ?_
  refine k_as (nI_add _ _) ?_
  refine k_sld hx hb hsc hbl hbA hS (v := xs (i + 1)) (by omega) hL rfl dL_law_924 ?_
  refine kCallS_i (mc := 0) (ms := 0) (W1 := fun _ : Unit => wM cI cZ y Lo Se Em gp gi am li dl (rK μ) (rT μ) (rE μ) (rD μ) (rF μ) (rS μ) (rC μ) Hm (nI 1)) (fun _ _ h => h) hP hD hS hA (fun _ => rfl) (va_runV (As := [.int (xs (i + 1))]) (rest := []) ⟨hx, hb, hml, hown, hts⟩ (c_X3_errors_bad l D cI cZ cO cJ y Lo Se Em gp gi am li dl (rK μ) (rT μ) (rE μ) (rD μ) (rF μ) (rS μ) (rC μ) Hm th (xs (i + 1)) H.size h) (cwV (rm := rmX3_errors) 1 hts gL_law_X3_errors rfl rfl rfl (by decide +kernel) ⟨Nat.le_of_ble_eq_true rfl, Nat.le_of_ble_eq_true rfl⟩) (kPreVW hK hN (sfP hP) (sfD hD) (va_recv hK (sfP hP) (ci := 3) (q0 := 0) rfl rfl)) rfl rfl hl.1 rfl (lv_room (Nat.le_of_ble_eq_true rfl)) dL_law_925 ⟨by show _ ≤ 653765; omega, by show _ ≤ 7134809; omega⟩) (fun r9 u2 H locs hr9 hP hD hS => ?_)
  subst hr9
  have hP : va_P D vwCl ((wC cI cZ cO x a t b ck Ho (sT σ) (sE σ) (sD σ) (sF σ) (sS σ) (sC σ) (sL σ) (sT ρ) (sE ρ) (sD ρ) (sF ρ) (sS ρ) (sC ρ) (sL ρ) Lo Se Ef gp gi am li dl ++ [(o, .inl (cJ, 1, .inr (.inl g)))]) ++ wM cI cZ y Lo Se Em gp gi am li dl (rK μ) (rT μ) (rE μ) (rD μ) (rF μ) (rS μ) (rC μ) Hm (nI 1)) H := hP
  have hD : va_D A ((wC cI cZ cO x a t b ck Ho (sT σ) (sE σ) (sD σ) (sF σ) (sS σ) (sC σ) (sL σ) (sT ρ) (sE ρ) (sD ρ) (sF ρ) (sS ρ) (sC ρ) (sL ρ) Lo Se Ef gp gi am li dl ++ [(o, .inl (cJ, 1, .inr (.inl g)))]) ++ wM cI cZ y Lo Se Em gp gi am li dl (rK μ) (rT μ) (rE μ) (rD μ) (rF μ) (rS μ) (rC μ) Hm (nI 1)) := hD
  refine lv_istore (lv' := [(6, .int (nI 0)), (5, .int (nI 1)), (0, .ref bs), (1, .ref (x 0)), (2, .ref (y 0)), (3, .ref o), (4, .int (nI i))]) hx hb dL_law_928 hl (by decide) rfl (fun ls hl => ?_)
  refine lv_aload_n hx hb dL_law_930 rfl (lv_at hl 4 rfl) ?_
  refine kCallS_i (mc := 0) (ms := 0) (W1 := fun _ : Unit => wM cI cZ y Lo Se Em gp gi am li dl (rK μ) (rT μ) (rE μ) (rD μ) (rF μ) (rS μ) (rC μ) Hm (nI 1)) (fun _ _ h => h) hP hD hS hA (fun _ => rfl) (va_runV (As := []) (rest := []) ⟨hx, hb, hml, hown, hts⟩ (c_X3_thrown l D cI cZ cO cJ y Lo Se Em gp gi am li dl (rK μ) (rT μ) (rE μ) (rD μ) (rF μ) (rS μ) (rC μ) Hm (nI 1) H.size) (cwV (rm := rmX3_thrown) 0 hts gL_law_X3_thrown rfl rfl rfl (by decide +kernel) ⟨Nat.le_of_ble_eq_true rfl, Nat.le_of_ble_eq_true rfl⟩) (kPreVW hK hN (sfP hP) (sfD hD) (va_recv hK (sfP hP) (ci := 3) (q0 := 0) rfl rfl)) rfl rfl hl.1 rfl (lv_room (Nat.le_of_ble_eq_true rfl)) dL_law_931 ⟨by show _ ≤ 653765; omega, by show _ ≤ 7134809; omega⟩) (fun r9 u3 H locs hr9 hP hD hS => ?_)
  subst hr9
  have hP : va_P D vwCl ((wC cI cZ cO x a t b ck Ho (sT σ) (sE σ) (sD σ) (sF σ) (sS σ) (sC σ) (sL σ) (sT ρ) (sE ρ) (sD ρ) (sF ρ) (sS ρ) (sC ρ) (sL ρ) Lo Se Ef gp gi am li dl ++ [(o, .inl (cJ, 1, .inr (.inl g)))]) ++ wM cI cZ y Lo Se Em gp gi am li dl (rK μ) (rT μ) (rE μ) (rD μ) (rF μ) (rS μ) (rC μ) Hm (nI 1)) H := hP
  have hD : va_D A ((wC cI cZ cO x a t b ck Ho (sT σ) (sE σ) (sD σ) (sF σ) (sS σ) (sC σ) (sL σ) (sT ρ) (sE ρ) (sD ρ) (sF ρ) (sS ρ) (sC ρ) (sL ρ) Lo Se Ef gp gi am li dl ++ [(o, .inl (cJ, 1, .inr (.inl g)))]) ++ wM cI cZ y Lo Se Em gp gi am li dl (rK μ) (rT μ) (rE μ) (rD μ) (rF μ) (rS μ) (rC μ) Hm (nI 1)) := hD
  refine lv_iload hx hb dL_law_934 (lv_at hl 1 rfl) ?_
  refine lv_icmp_eq (tgt := 941) hx hb dL_law_936 (by decide) (fun _ => ?_) (fun c9 => absurd rfl c9)
  refine lv_iload hx hb dL_law_941 (lv_at hl 1 rfl) ?_
  refine lv_if_ne (tgt := 958) hx hb dL_law_943 (by decide) (fun _ => ?_) (fun c9 => absurd c9 (by decide))
  refine lv_goto (tgt := 1234) hx hb dL_law_958 (by decide) ?_
  refine lv_iinc (v := nI (i + 4)) (lv' := [(4, .int (nI (i + 4))), (6, .int (nI 0)), (5, .int (nI 1)), (0, .ref bs), (1, .ref (x 0)), (2, .ref (y 0)), (3, .ref o)]) hx hb dL_law_1234 hl (k := 6) rfl (nI_add _ 4) (by decide) rfl (fun ls hl => ?_)
  refine lv_goto (tgt := 23) hx hb dL_law_1237 (by decide) ?_
  refine W.widen (k := cl + 1) (n := sl + 6) (by omega) (by omega) ?_
  exact kk σ ρ μ ck Ho Hm Lo Se Em Ef gp gi am li dl _ _ hI H locs hP hD hS ls (lv_sub hl [3, 4, 5, 6, 0] rfl)

set_option maxHeartbeats 4000000 in
set_option maxRecDepth 100000 in
theorem lb_hotMinutes_ok (z : Nat) (e1 : xs (i + 1) = nI z) (hz : z < 6) (h0 : LC p l s m args c D cI cZ cO cJ bs L xs A) (hi : i + 4 ≤ L) (hcl : cl + 1 ≤ 653765) (hsl : sl + 6 ≤ 7134809) (hI : LI σ μ ck Ho Hm Lo Se Em Ef gp gi am dl) (hP : va_P D vwCl (wL cI cZ cO cJ x a t b y o σ ρ μ ck Ho Hm Lo Se Em Ef gp gi am li dl g th) H) (hD : va_D A (wL cI cZ cO cJ x a t b y o σ ρ μ ck Ho Hm Lo Se Em Ef gp gi am li dl g th)) (hS : va_S A s.heap H locs) (hl : lv_has ls 7 [(0, .ref bs), (1, .ref (x 0)), (2, .ref (y 0)), (3, .ref o), (4, .int (nI i))]) (kk : Hd p l e s m args below meth c D cI cZ cO cJ x a t b y o bs A Q (i + 4) (cl + 1) (sl + 6)) : W p l e room_1 s m args below meth c H locs cl sl Q (F0 m 961 ls []) := by
  obtain ⟨hx, hb, hml, hts, hown, hK, hN, hX, hC, hA, hsc, hbl, hbA, hst, hL⟩ := h0
  refine lv_aload_n hx hb dL_law_961 rfl (lv_at hl 1 rfl) ?_
  refine lv_aload_n hx hb dL_law_962 rfl (lv_at hl 0 rfl) ?_
  refine lv_iload hx hb dL_law_963 (lv_at hl 4 rfl) ?_
  refine lv_iconst (v := nI 1) hx hb dL_law_965 (by decide +kernel) ?_
  refine lv_iadd hx hb dL_law_966 ?_
  refine k_as (nI_add _ _) ?_
  refine k_sld hx hb hsc hbl hbA hS (v := nI z) (by omega) hL e1 dL_law_967 ?_
  refine lv_aload_n hx hb dL_law_968 rfl (lv_at hl 3 rfl) ?_
  refine kCallP_i (mc := 0) (ms := 0) (W1 := fun _ : Unit => wC cI cZ cO x a t b ck Ho (sT σ) (sE σ) (sD σ) (sF σ) (sS σ) (sC σ) (sL σ) (sT ρ) (sE ρ) (sD ρ) (sF ρ) (sS ρ) (sC ρ) (sL ρ) Lo Se Ef gp gi am li dl ++ [(o, .inl (cJ, 1, .inr (.inl (vp_updL g 0 ((Ho z)).toInt64))))]) (fun _ _ h => h) hP hD hS hA (fun _ => rfl) (vx_runSW (As := [.ref (x 0), .int (nI z), .ref o]) (rest := []) ⟨hx, hb, hml, hown, hts⟩ (c_L_hotMinutes l D cI cZ cO cJ x a t b ck Ho (sT σ) (sE σ) (sD σ) (sF σ) (sS σ) (sC σ) (sL σ) (sT ρ) (sE ρ) (sD ρ) (sF ρ) (sS ρ) (sC ρ) (sL ρ) Lo Se Ef gp gi am li dl z o g H.size hz) (vx_cwSW (rm := rmL_hotMinutes) 3 hts gL_law_L_hotMinutes rfl rfl rfl (by decide +kernel) ⟨Nat.le_of_ble_eq_true rfl, Nat.le_of_ble_eq_true rfl⟩) (kPreSHW hK hN hX hC (pfP hP) (pfD hD) hS (kfree (pfD hD) hS hA)) rfl rfl hl.1 rfl (lv_room (Nat.le_of_ble_eq_true rfl)) dL_law_969 ⟨by show _ ≤ 653765; omega, by show _ ≤ 7134809; omega⟩) (fun r9 u H locs hr9 hP hD hS => ?_)
  subst hr9
  have hP : va_P D vwCl ((wC cI cZ cO x a t b ck Ho (sT σ) (sE σ) (sD σ) (sF σ) (sS σ) (sC σ) (sL σ) (sT ρ) (sE ρ) (sD ρ) (sF ρ) (sS ρ) (sC ρ) (sL ρ) Lo Se Ef gp gi am li dl ++ [(o, .inl (cJ, 1, .inr (.inl (vp_updL g 0 ((Ho z)).toInt64))))]) ++ wM cI cZ y Lo Se Em gp gi am li dl (rK μ) (rT μ) (rE μ) (rD μ) (rF μ) (rS μ) (rC μ) Hm th) H := hP
  have hD : va_D A ((wC cI cZ cO x a t b ck Ho (sT σ) (sE σ) (sD σ) (sF σ) (sS σ) (sC σ) (sL σ) (sT ρ) (sE ρ) (sD ρ) (sF ρ) (sS ρ) (sC ρ) (sL ρ) Lo Se Ef gp gi am li dl ++ [(o, .inl (cJ, 1, .inr (.inl (vp_updL g 0 ((Ho z)).toInt64))))]) ++ wM cI cZ y Lo Se Em gp gi am li dl (rK μ) (rT μ) (rE μ) (rD μ) (rF μ) (rS μ) (rC μ) Hm th) := hD
  refine lv_istore (lv' := [(5, .int (nI 0)), (0, .ref bs), (1, .ref (x 0)), (2, .ref (y 0)), (3, .ref o), (4, .int (nI i))]) hx hb dL_law_972 hl (by decide) rfl (fun ls hl => ?_)
  refine lv_aload_n hx hb dL_law_974 rfl (lv_at hl 3 rfl) ?_
  refine lv_aload_n hx hb dL_law_975 rfl (lv_at hl 1 rfl) ?_
  refine lv_iload hx hb dL_law_976 (lv_at hl 5 rfl) ?_
  refine lv_iconst (v := nI 1) hx hb dL_law_978 (by decide +kernel) ?_
  refine lv_iadd hx hb dL_law_979 ?_
  refine k_as (nI_add _ _) ?_
  refine k_sld hx hb hsc hbl hbA hS (v := nI z) (by omega) hL e1 dL_law_980 ?_
  refine kCallS_i (mc := 0) (ms := 0) (W1 := fun _ : Unit => wM cI cZ y Lo Se Em gp gi am li dl (rK μ) (rT μ) (rE μ) (rD μ) (rF μ) (rS μ) (rC μ) Hm (nI 0)) (fun _ _ h => h) hP hD hS hA (fun _ => rfl) (va_runV (As := [.int (nI z)]) (rest := []) ⟨hx, hb, hml, hown, hts⟩ (c_X3_hotMinutes_ok l D cI cZ cO cJ y Lo Se Em gp gi am li dl (rK μ) (rT μ) (rE μ) (rD μ) (rF μ) (rS μ) (rC μ) Hm th z H.size hz) (cwV (rm := rmX3_hotMinutes) 1 hts gL_law_X3_hotMinutes rfl rfl rfl (by decide +kernel) ⟨Nat.le_of_ble_eq_true rfl, Nat.le_of_ble_eq_true rfl⟩) (kPreVW hK hN (sfP hP) (sfD hD) (va_recv hK (sfP hP) (ci := 3) (q0 := 0) rfl rfl)) rfl rfl hl.1 rfl (lv_room (Nat.le_of_ble_eq_true rfl)) dL_law_981 ⟨by show _ ≤ 653765; omega, by show _ ≤ 7134809; omega⟩) (fun r9 u2 H locs hr9 hP hD hS => ?_)
  subst hr9
  have hP : va_P D vwCl ((wC cI cZ cO x a t b ck Ho (sT σ) (sE σ) (sD σ) (sF σ) (sS σ) (sC σ) (sL σ) (sT ρ) (sE ρ) (sD ρ) (sF ρ) (sS ρ) (sC ρ) (sL ρ) Lo Se Ef gp gi am li dl ++ [(o, .inl (cJ, 1, .inr (.inl (vp_updL g 0 ((Ho z)).toInt64))))]) ++ wM cI cZ y Lo Se Em gp gi am li dl (rK μ) (rT μ) (rE μ) (rD μ) (rF μ) (rS μ) (rC μ) Hm (nI 0)) H := hP
  have hD : va_D A ((wC cI cZ cO x a t b ck Ho (sT σ) (sE σ) (sD σ) (sF σ) (sS σ) (sC σ) (sL σ) (sT ρ) (sE ρ) (sD ρ) (sF ρ) (sS ρ) (sC ρ) (sL ρ) Lo Se Ef gp gi am li dl ++ [(o, .inl (cJ, 1, .inr (.inl (vp_updL g 0 ((Ho z)).toInt64))))]) ++ wM cI cZ y Lo Se Em gp gi am li dl (rK μ) (rT μ) (rE μ) (rD μ) (rF μ) (rS μ) (rC μ) Hm (nI 0)) := hD
  refine lv_istore (lv' := [(6, .int (Hm z)), (5, .int (nI 0)), (0, .ref bs), (1, .ref (x 0)), (2, .ref (y 0)), (3, .ref o), (4, .int (nI i))]) hx hb dL_law_984 hl (by decide) rfl (fun ls hl => ?_)
  refine lv_aload_n hx hb dL_law_986 rfl (lv_at hl 4 rfl) ?_
  refine kCallS_i (mc := 0) (ms := 0) (W1 := fun _ : Unit => wM cI cZ y Lo Se Em gp gi am li dl (rK μ) (rT μ) (rE μ) (rD μ) (rF μ) (rS μ) (rC μ) Hm (nI 0)) (fun _ _ h => h) hP hD hS hA (fun _ => rfl) (va_runV (As := []) (rest := []) ⟨hx, hb, hml, hown, hts⟩ (c_X3_thrown l D cI cZ cO cJ y Lo Se Em gp gi am li dl (rK μ) (rT μ) (rE μ) (rD μ) (rF μ) (rS μ) (rC μ) Hm (nI 0) H.size) (cwV (rm := rmX3_thrown) 0 hts gL_law_X3_thrown rfl rfl rfl (by decide +kernel) ⟨Nat.le_of_ble_eq_true rfl, Nat.le_of_ble_eq_true rfl⟩) (kPreVW hK hN (sfP hP) (sfD hD) (va_recv hK (sfP hP) (ci := 3) (q0 := 0) rfl rfl)) rfl rfl hl.1 rfl (lv_room (Nat.le_of_ble_eq_true rfl)) dL_law_987 ⟨by show _ ≤ 653765; omega, by show _ ≤ 7134809; omega⟩) (fun r9 u3 H locs hr9 hP hD hS => ?_)
  subst hr9
  have hP : va_P D vwCl ((wC cI cZ cO x a t b ck Ho (sT σ) (sE σ) (sD σ) (sF σ) (sS σ) (sC σ) (sL σ) (sT ρ) (sE ρ) (sD ρ) (sF ρ) (sS ρ) (sC ρ) (sL ρ) Lo Se Ef gp gi am li dl ++ [(o, .inl (cJ, 1, .inr (.inl (vp_updL g 0 ((Ho z)).toInt64))))]) ++ wM cI cZ y Lo Se Em gp gi am li dl (rK μ) (rT μ) (rE μ) (rD μ) (rF μ) (rS μ) (rC μ) Hm (nI 0)) H := hP
  have hD : va_D A ((wC cI cZ cO x a t b ck Ho (sT σ) (sE σ) (sD σ) (sF σ) (sS σ) (sC σ) (sL σ) (sT ρ) (sE ρ) (sD ρ) (sF ρ) (sS ρ) (sC ρ) (sL ρ) Lo Se Ef gp gi am li dl ++ [(o, .inl (cJ, 1, .inr (.inl (vp_updL g 0 ((Ho z)).toInt64))))]) ++ wM cI cZ y Lo Se Em gp gi am li dl (rK μ) (rT μ) (rE μ) (rD μ) (rF μ) (rS μ) (rC μ) Hm (nI 0)) := hD
  refine lv_iload hx hb dL_law_990 (lv_at hl 1 rfl) ?_
  refine lv_icmp_eq (tgt := 997) hx hb dL_law_992 (by decide) (fun _ => ?_) (fun c9 => absurd rfl c9)
  refine lv_iload hx hb dL_law_997 (lv_at hl 1 rfl) ?_
  refine lv_if_ne (tgt := 1014) hx hb dL_law_999 (by decide) (fun c9 => absurd rfl c9) (fun _ => ?_)
  refine lv_aload_n hx hb dL_law_1002 rfl (lv_at hl 5 rfl) ?_
  refine lv_iconst (v := nI 0) hx hb dL_law_1003 (by decide +kernel) ?_
  refine k_laldS hx hb hK 3 rfl hP dL_law_1004 ?_
  refine lv_iload hx hb dL_law_1005 (lv_at hl 0 rfl) ?_
  refine lv_i2l hx hb dL_law_1007 rfl ?_
  refine k_lcmp0 (pk_uLs.trans (congrArg Int32.toInt64 (hI.2.2.2.2 z hz).symm)) hx hb dL_law_1008 ?_
  refine lv_if_eq (tgt := 1014) hx hb dL_law_1009 (by decide) (fun _ => ?_) (fun c9 => absurd rfl c9)
  refine lv_goto (tgt := 1234) hx hb dL_law_1014 (by decide) ?_
  refine lv_iinc (v := nI (i + 4)) (lv' := [(4, .int (nI (i + 4))), (6, .int (Hm z)), (5, .int (nI 0)), (0, .ref bs), (1, .ref (x 0)), (2, .ref (y 0)), (3, .ref o)]) hx hb dL_law_1234 hl (k := 6) rfl (nI_add _ 4) (by decide) rfl (fun ls hl => ?_)
  refine lv_goto (tgt := 23) hx hb dL_law_1237 (by decide) ?_
  refine W.widen (k := cl + 1) (n := sl + 6) (by omega) (by omega) ?_
  exact kk σ ρ μ ck Ho Hm Lo Se Em Ef gp gi am li dl _ _ hI H locs hP hD hS ls (lv_sub hl [3, 4, 5, 6, 0] rfl)

set_option maxHeartbeats 4000000 in
set_option maxRecDepth 100000 in
theorem lb_hotMinutes_bad (h : ¬ inR (xs (i + 1)) (nI 0) (nI 5)) (h0 : LC p l s m args c D cI cZ cO cJ bs L xs A) (hi : i + 4 ≤ L) (hcl : cl + 1 ≤ 653765) (hsl : sl + 6 ≤ 7134809) (hI : LI σ μ ck Ho Hm Lo Se Em Ef gp gi am dl) (hP : va_P D vwCl (wL cI cZ cO cJ x a t b y o σ ρ μ ck Ho Hm Lo Se Em Ef gp gi am li dl g th) H) (hD : va_D A (wL cI cZ cO cJ x a t b y o σ ρ μ ck Ho Hm Lo Se Em Ef gp gi am li dl g th)) (hS : va_S A s.heap H locs) (hl : lv_has ls 7 [(0, .ref bs), (1, .ref (x 0)), (2, .ref (y 0)), (3, .ref o), (4, .int (nI i))]) (kk : Hd p l e s m args below meth c D cI cZ cO cJ x a t b y o bs A Q (i + 4) (cl + 1) (sl + 6)) : W p l e room_1 s m args below meth c H locs cl sl Q (F0 m 961 ls []) := by
  obtain ⟨hx, hb, hml, hts, hown, hK, hN, hX, hC, hA, hsc, hbl, hbA, hst, hL⟩ := h0
  refine lv_aload_n hx hb dL_law_961 rfl (lv_at hl 1 rfl) ?_
  refine lv_aload_n hx hb dL_law_962 rfl (lv_at hl 0 rfl) ?_
  refine lv_iload hx hb dL_law_963 (lv_at hl 4 rfl) ?_
  refine lv_iconst (v := nI 1) hx hb dL_law_965 (by decide +kernel) ?_
  refine lv_iadd hx hb dL_law_966 ?_
  refine k_as (nI_add _ _) ?_
  refine k_sld hx hb hsc hbl hbA hS (v := xs (i + 1)) (by omega) hL rfl dL_law_967 ?_
  refine lv_aload_n hx hb dL_law_968 rfl (lv_at hl 3 rfl) ?_
  refine kCallP_i (mc := 1) (ms := 6) (W1 := fun _ : Unit => wC cI cZ cO x a t b ck Ho (sT σ) (sE σ) (sD σ) (sF σ) (sS σ) (sC σ) (sL σ) (sT ρ) (sE ρ) (sD ρ) (sF ρ) (sS ρ) (sC ρ) (sL ρ) Lo Se Ef gp gi am li dl ++ [(o, .inl (cJ, 1, .inr (.inl g)))]) (fun _ _ h => h) hP hD hS hA (fun _ => rfl) (vx_runSW (As := [.ref (x 0), .int (xs (i + 1)), .ref o]) (rest := []) ⟨hx, hb, hml, hown, hts⟩ (c_L_hotMinutes_bad l hst D cI cZ cO cJ x a t b ck Ho (sT σ) (sE σ) (sD σ) (sF σ) (sS σ) (sC σ) (sL σ) (sT ρ) (sE ρ) (sD ρ) (sF ρ) (sS ρ) (sC ρ) (sL ρ) Lo Se Ef gp gi am li dl (xs (i + 1)) o g H.size h) (vx_cwSW (rm := rxL_hotMinutes) 3 hts gL_law_L_hotMinutes rfl rfl rfl (by decide +kernel) ⟨Nat.le_of_ble_eq_true rfl, Nat.le_of_ble_eq_true rfl⟩) (kPreSHW hK hN hX hC (pfP hP) (pfD hD) hS (kfree (pfD hD) hS hA)) rfl rfl hl.1 rfl (lv_room (Nat.le_of_ble_eq_true rfl)) dL_law_969 ⟨by show _ ≤ 653765; omega, by show _ ≤ 7134809; omega⟩) (fun r9 u H locs hr9 hP hD hS => ?_)
  subst hr9
  have hP : va_P D vwCl ((wC cI cZ cO x a t b ck Ho (sT σ) (sE σ) (sD σ) (sF σ) (sS σ) (sC σ) (sL σ) (sT ρ) (sE ρ) (sD ρ) (sF ρ) (sS ρ) (sC ρ) (sL ρ) Lo Se Ef gp gi am li dl ++ [(o, .inl (cJ, 1, .inr (.inl g)))]) ++ wM cI cZ y Lo Se Em gp gi am li dl (rK μ) (rT μ) (rE μ) (rD μ) (rF μ) (rS μ) (rC μ) Hm th) H := hP
  have hD : va_D A ((wC cI cZ cO x a t b ck Ho (sT σ) (sE σ) (sD σ) (sF σ) (sS σ) (sC σ) (sL σ) (sT ρ) (sE ρ) (sD ρ) (sF ρ) (sS ρ) (sC ρ) (sL ρ) Lo Se Ef gp gi am li dl ++ [(o, .inl (cJ, 1, .inr (.inl g)))]) ++ wM cI cZ y Lo Se Em gp gi am li dl (rK μ) (rT μ) (rE μ) (rD μ) (rF μ) (rS μ) (rC μ) Hm th) := hD
  refine lv_istore (lv' := [(5, .int (nI 1)), (0, .ref bs), (1, .ref (x 0)), (2, .ref (y 0)), (3, .ref o), (4, .int (nI i))]) hx hb dL_law_972 hl (by decide) rfl (fun ls hl => ?_)
  refine lv_aload_n hx hb dL_law_974 rfl (lv_at hl 3 rfl) ?_
  refine lv_aload_n hx hb dL_law_975 rfl (lv_at hl 1 rfl) ?_
  refine lv_iload hx hb dL_law_976 (lv_at hl 5 rfl) ?_
  refine lv_iconst (v := nI 1) hx hb dL_law_978 (by decide +kernel) ?_
  refine lv_iadd hx hb dL_law_979 ?_
  refine k_as (nI_add _ _) ?_
  refine k_sld hx hb hsc hbl hbA hS (v := xs (i + 1)) (by omega) hL rfl dL_law_980 ?_
  refine kCallS_i (mc := 0) (ms := 0) (W1 := fun _ : Unit => wM cI cZ y Lo Se Em gp gi am li dl (rK μ) (rT μ) (rE μ) (rD μ) (rF μ) (rS μ) (rC μ) Hm (nI 1)) (fun _ _ h => h) hP hD hS hA (fun _ => rfl) (va_runV (As := [.int (xs (i + 1))]) (rest := []) ⟨hx, hb, hml, hown, hts⟩ (c_X3_hotMinutes_bad l D cI cZ cO cJ y Lo Se Em gp gi am li dl (rK μ) (rT μ) (rE μ) (rD μ) (rF μ) (rS μ) (rC μ) Hm th (xs (i + 1)) H.size h) (cwV (rm := rmX3_hotMinutes) 1 hts gL_law_X3_hotMinutes rfl rfl rfl (by decide +kernel) ⟨Nat.le_of_ble_eq_true rfl, Nat.le_of_ble_eq_true rfl⟩) (kPreVW hK hN (sfP hP) (sfD hD) (va_recv hK (sfP hP) (ci := 3) (q0 := 0) rfl rfl)) rfl rfl hl.1 rfl (lv_room (Nat.le_of_ble_eq_true rfl)) dL_law_981 ⟨by show _ ≤ 653765; omega, by show _ ≤ 7134809; omega⟩) (fun r9 u2 H locs hr9 hP hD hS => ?_)
  subst hr9
  have hP : va_P D vwCl ((wC cI cZ cO x a t b ck Ho (sT σ) (sE σ) (sD σ) (sF σ) (sS σ) (sC σ) (sL σ) (sT ρ) (sE ρ) (sD ρ) (sF ρ) (sS ρ) (sC ρ) (sL ρ) Lo Se Ef gp gi am li dl ++ [(o, .inl (cJ, 1, .inr (.inl g)))]) ++ wM cI cZ y Lo Se Em gp gi am li dl (rK μ) (rT μ) (rE μ) (rD μ) (rF μ) (rS μ) (rC μ) Hm (nI 1)) H := hP
  have hD : va_D A ((wC cI cZ cO x a t b ck Ho (sT σ) (sE σ) (sD σ) (sF σ) (sS σ) (sC σ) (sL σ) (sT ρ) (sE ρ) (sD ρ) (sF ρ) (sS ρ) (sC ρ) (sL ρ) Lo Se Ef gp gi am li dl ++ [(o, .inl (cJ, 1, .inr (.inl g)))]) ++ wM cI cZ y Lo Se Em gp gi am li dl (rK μ) (rT μ) (rE μ) (rD μ) (rF μ) (rS μ) (rC μ) Hm (nI 1)) := hD
  refine lv_istore (lv' := [(6, .int (nI 0)), (5, .int (nI 1)), (0, .ref bs), (1, .ref (x 0)), (2, .ref (y 0)), (3, .ref o), (4, .int (nI i))]) hx hb dL_law_984 hl (by decide) rfl (fun ls hl => ?_)
  refine lv_aload_n hx hb dL_law_986 rfl (lv_at hl 4 rfl) ?_
  refine kCallS_i (mc := 0) (ms := 0) (W1 := fun _ : Unit => wM cI cZ y Lo Se Em gp gi am li dl (rK μ) (rT μ) (rE μ) (rD μ) (rF μ) (rS μ) (rC μ) Hm (nI 1)) (fun _ _ h => h) hP hD hS hA (fun _ => rfl) (va_runV (As := []) (rest := []) ⟨hx, hb, hml, hown, hts⟩ (c_X3_thrown l D cI cZ cO cJ y Lo Se Em gp gi am li dl (rK μ) (rT μ) (rE μ) (rD μ) (rF μ) (rS μ) (rC μ) Hm (nI 1) H.size) (cwV (rm := rmX3_thrown) 0 hts gL_law_X3_thrown rfl rfl rfl (by decide +kernel) ⟨Nat.le_of_ble_eq_true rfl, Nat.le_of_ble_eq_true rfl⟩) (kPreVW hK hN (sfP hP) (sfD hD) (va_recv hK (sfP hP) (ci := 3) (q0 := 0) rfl rfl)) rfl rfl hl.1 rfl (lv_room (Nat.le_of_ble_eq_true rfl)) dL_law_987 ⟨by show _ ≤ 653765; omega, by show _ ≤ 7134809; omega⟩) (fun r9 u3 H locs hr9 hP hD hS => ?_)
  subst hr9
  have hP : va_P D vwCl ((wC cI cZ cO x a t b ck Ho (sT σ) (sE σ) (sD σ) (sF σ) (sS σ) (sC σ) (sL σ) (sT ρ) (sE ρ) (sD ρ) (sF ρ) (sS ρ) (sC ρ) (sL ρ) Lo Se Ef gp gi am li dl ++ [(o, .inl (cJ, 1, .inr (.inl g)))]) ++ wM cI cZ y Lo Se Em gp gi am li dl (rK μ) (rT μ) (rE μ) (rD μ) (rF μ) (rS μ) (rC μ) Hm (nI 1)) H := hP
  have hD : va_D A ((wC cI cZ cO x a t b ck Ho (sT σ) (sE σ) (sD σ) (sF σ) (sS σ) (sC σ) (sL σ) (sT ρ) (sE ρ) (sD ρ) (sF ρ) (sS ρ) (sC ρ) (sL ρ) Lo Se Ef gp gi am li dl ++ [(o, .inl (cJ, 1, .inr (.inl g)))]) ++ wM cI cZ y Lo Se Em gp gi am li dl (rK μ) (rT μ) (rE μ) (rD μ) (rF μ) (rS μ) (rC μ) Hm (nI 1)) := hD
  refine lv_iload hx hb dL_law_990 (lv_at hl 1 rfl) ?_
  refine lv_icmp_eq (tgt := 997) hx hb dL_law_992 (by decide) (fun _ => ?_) (fun c9 => absurd rfl c9)
  refine lv_iload hx hb dL_law_997 (lv_at hl 1 rfl) ?_
  refine lv_if_ne (tgt := 1014) hx hb dL_law_999 (by decide) (fun _ => ?_) (fun c9 => absurd c9 (by decide))
  refine lv_goto (tgt := 1234) hx hb dL_law_1014 (by decide) ?_
  refine lv_iinc (v := nI (i + 4)) (lv' := [(4, .int (nI (i + 4))), (6, .int (nI 0)), (5, .int (nI 1)), (0, .ref bs), (1, .ref (x 0)), (2, .ref (y 0)), (3, .ref o)]) hx hb dL_law_1234 hl (k := 6) rfl (nI_add _ 4) (by decide) rfl (fun ls hl => ?_)
  refine lv_goto (tgt := 23) hx hb dL_law_1237 (by decide) ?_
  refine W.widen (k := cl + 1) (n := sl + 6) (by omega) (by omega) ?_
  exact kk σ ρ μ ck Ho Hm Lo Se Em Ef gp gi am li dl _ _ hI H locs hP hD hS ls (lv_sub hl [3, 4, 5, 6, 0] rfl)

set_option maxHeartbeats 4000000 in
set_option maxRecDepth 100000 in
theorem lb_pass_ok (nm : Nat) (e1 : xs (i + 1) = nI nm) (h1 : 0 < nm) (h2 : nm ≤ 300) (h3 : ck + nm ≤ 100000) (h0 : LC p l s m args c D cI cZ cO cJ bs L xs A) (hi : i + 4 ≤ L) (hcl : cl + 1 ≤ 653765) (hsl : sl + 6 ≤ 7134809) (hI : LI σ μ ck Ho Hm Lo Se Em Ef gp gi am dl) (hP : va_P D vwCl (wL cI cZ cO cJ x a t b y o σ ρ μ ck Ho Hm Lo Se Em Ef gp gi am li dl g th) H) (hD : va_D A (wL cI cZ cO cJ x a t b y o σ ρ μ ck Ho Hm Lo Se Em Ef gp gi am li dl g th)) (hS : va_S A s.heap H locs) (hl : lv_has ls 7 [(0, .ref bs), (1, .ref (x 0)), (2, .ref (y 0)), (3, .ref o), (4, .int (nI i))]) (kk : Hd p l e s m args below meth c D cI cZ cO cJ x a t b y o bs A Q (i + 4) (cl + 1) (sl + 6)) : W p l e room_1 s m args below meth c H locs cl sl Q (F0 m 724 ls []) := by
  obtain ⟨hx, hb, hml, hts, hown, hK, hN, hX, hC, hA, hsc, hbl, hbA, hst, hL⟩ := h0
  refine lv_aload_n hx hb dL_law_724 rfl (lv_at hl 1 rfl) ?_
  refine lv_aload_n hx hb dL_law_725 rfl (lv_at hl 0 rfl) ?_
  refine lv_iload hx hb dL_law_726 (lv_at hl 4 rfl) ?_
  refine lv_iconst (v := nI 1) hx hb dL_law_728 (by decide +kernel) ?_
  refine lv_iadd hx hb dL_law_729 ?_
  refine k_as (nI_add _ _) ?_
  refine k_sld hx hb hsc hbl hbA hS (v := nI nm) (by omega) hL e1 dL_law_730 ?_
  refine lv_aload_n hx hb dL_law_731 rfl (lv_at hl 3 rfl) ?_
  refine kCallP_i (mc := 0) (ms := 0) (W1 := fun _ : Unit => wC cI cZ cO x a t b (ck + nm) (pHo li (fun k => sT (hRun gp gi am Lo Se Ef dl k σ)) Ho nm) (sT (hRun gp gi am Lo Se Ef dl nm σ)) (sE (hRun gp gi am Lo Se Ef dl nm σ)) (sD (hRun gp gi am Lo Se Ef dl nm σ)) (sF (hRun gp gi am Lo Se Ef dl nm σ)) (sS (hRun gp gi am Lo Se Ef dl nm σ)) (sC (hRun gp gi am Lo Se Ef dl nm σ)) (sL (hRun gp gi am Lo Se Ef dl nm σ)) (sT ρ) (sE ρ) (sD ρ) (sF ρ) (sS ρ) (sC ρ) (sL ρ) Lo Se Ef gp gi am li dl ++ [(o, .inl (cJ, 1, .inr (.inl (vp_updL g 0 ((pSum li (fun k => sT (hRun gp gi am Lo Se Ef dl k σ)) nm)).toInt64))))]) (fun _ _ h => h) hP hD hS hA (fun _ => rfl) (vx_runSW (As := [.ref (x 0), .int (nI nm), .ref o]) (rest := []) ⟨hx, hb, hml, hown, hts⟩ (c_L_pass l D cI cZ cO cJ x a t b ck Ho σ (sT ρ) (sE ρ) (sD ρ) (sF ρ) (sS ρ) (sC ρ) (sL ρ) Lo Se Ef gp gi am li dl nm o g H.size h1 h2 (LI_la hI) hI.2.1.2.2.2.2.2.2.1 h3) (vx_cwSW (rm := rmL_pass) 3 hts gL_law_L_pass rfl rfl rfl (by decide +kernel) ⟨Nat.le_of_ble_eq_true rfl, Nat.le_of_ble_eq_true rfl⟩) (kPreSHW hK hN hX hC (pfP hP) (pfD hD) hS (kfree (pfD hD) hS hA)) rfl rfl hl.1 rfl (lv_room (Nat.le_of_ble_eq_true rfl)) dL_law_732 ⟨by show _ ≤ 653765; omega, by show _ ≤ 7134809; omega⟩) (fun r9 u H locs hr9 hP hD hS => ?_)
  subst hr9
  have hP : va_P D vwCl ((wC cI cZ cO x a t b (ck + nm) (pHo li (fun k => sT (hRun gp gi am Lo Se Ef dl k σ)) Ho nm) (sT (hRun gp gi am Lo Se Ef dl nm σ)) (sE (hRun gp gi am Lo Se Ef dl nm σ)) (sD (hRun gp gi am Lo Se Ef dl nm σ)) (sF (hRun gp gi am Lo Se Ef dl nm σ)) (sS (hRun gp gi am Lo Se Ef dl nm σ)) (sC (hRun gp gi am Lo Se Ef dl nm σ)) (sL (hRun gp gi am Lo Se Ef dl nm σ)) (sT ρ) (sE ρ) (sD ρ) (sF ρ) (sS ρ) (sC ρ) (sL ρ) Lo Se Ef gp gi am li dl ++ [(o, .inl (cJ, 1, .inr (.inl (vp_updL g 0 ((pSum li (fun k => sT (hRun gp gi am Lo Se Ef dl k σ)) nm)).toInt64))))]) ++ wM cI cZ y Lo Se Em gp gi am li dl (rK μ) (rT μ) (rE μ) (rD μ) (rF μ) (rS μ) (rC μ) Hm th) H := hP
  have hD : va_D A ((wC cI cZ cO x a t b (ck + nm) (pHo li (fun k => sT (hRun gp gi am Lo Se Ef dl k σ)) Ho nm) (sT (hRun gp gi am Lo Se Ef dl nm σ)) (sE (hRun gp gi am Lo Se Ef dl nm σ)) (sD (hRun gp gi am Lo Se Ef dl nm σ)) (sF (hRun gp gi am Lo Se Ef dl nm σ)) (sS (hRun gp gi am Lo Se Ef dl nm σ)) (sC (hRun gp gi am Lo Se Ef dl nm σ)) (sL (hRun gp gi am Lo Se Ef dl nm σ)) (sT ρ) (sE ρ) (sD ρ) (sF ρ) (sS ρ) (sC ρ) (sL ρ) Lo Se Ef gp gi am li dl ++ [(o, .inl (cJ, 1, .inr (.inl (vp_updL g 0 ((pSum li (fun k => sT (hRun gp gi am Lo Se Ef dl k σ)) nm)).toInt64))))]) ++ wM cI cZ y Lo Se Em gp gi am li dl (rK μ) (rT μ) (rE μ) (rD μ) (rF μ) (rS μ) (rC μ) Hm th) := hD
  refine lv_istore (lv' := [(5, .int (nI 0)), (0, .ref bs), (1, .ref (x 0)), (2, .ref (y 0)), (3, .ref o), (4, .int (nI i))]) hx hb dL_law_735 hl (by decide) rfl (fun ls hl => ?_)
  refine lv_aload_n hx hb dL_law_737 rfl (lv_at hl 3 rfl) ?_
  refine lv_aload_n hx hb dL_law_738 rfl (lv_at hl 1 rfl) ?_
  refine lv_iload hx hb dL_law_739 (lv_at hl 5 rfl) ?_
  refine lv_iconst (v := nI 1) hx hb dL_law_741 (by decide +kernel) ?_
  refine lv_iadd hx hb dL_law_742 ?_
  refine k_as (nI_add _ _) ?_
  refine k_sld hx hb hsc hbl hbA hS (v := nI nm) (by omega) hL e1 dL_law_743 ?_
  refine kCallS_i (mc := 0) (ms := 0) (W1 := fun u2 : MS × (Nat → Int32) => wM cI cZ y Lo Se Em gp gi am li dl (rK u2.1) (rT u2.1) (rE u2.1) (rD u2.1) (rF u2.1) (rS u2.1) (rC u2.1) u2.2 (nI 0)) (fun _ _ h => h) hP hD hS hA (fun _ => rfl) (va_runV (As := [.int (nI nm)]) (rest := []) ⟨hx, hb, hml, hown, hts⟩ (c_X3_pass_ok l D cI cZ cO cJ y Lo Se Em gp gi am li dl μ Hm th Ef σ nm Ho H.size hI.2.1 hI.1 h1 h2 (by rw [hI.2.2.1]; exact h3) hI.2.2.2.2) (cwV (rm := rmX3_pass) 1 hts gL_law_X3_pass rfl rfl rfl (by decide +kernel) ⟨Nat.le_of_ble_eq_true rfl, Nat.le_of_ble_eq_true rfl⟩) (kPreVW hK hN (sfP hP) (sfD hD) (va_recv hK (sfP hP) (ci := 3) (q0 := 0) rfl rfl)) rfl rfl hl.1 rfl (lv_room (Nat.le_of_ble_eq_true rfl)) dL_law_744 ⟨by show _ ≤ 653765; omega, by show _ ≤ 7134809; omega⟩) (fun r9 u2 H locs hr9 hP hD hS => ?_)
  obtain ⟨hr9, hu⟩ := hr9
  subst hr9
  have hP : va_P D vwCl ((wC cI cZ cO x a t b (ck + nm) (pHo li (fun k => sT (hRun gp gi am Lo Se Ef dl k σ)) Ho nm) (sT (hRun gp gi am Lo Se Ef dl nm σ)) (sE (hRun gp gi am Lo Se Ef dl nm σ)) (sD (hRun gp gi am Lo Se Ef dl nm σ)) (sF (hRun gp gi am Lo Se Ef dl nm σ)) (sS (hRun gp gi am Lo Se Ef dl nm σ)) (sC (hRun gp gi am Lo Se Ef dl nm σ)) (sL (hRun gp gi am Lo Se Ef dl nm σ)) (sT ρ) (sE ρ) (sD ρ) (sF ρ) (sS ρ) (sC ρ) (sL ρ) Lo Se Ef gp gi am li dl ++ [(o, .inl (cJ, 1, .inr (.inl (vp_updL g 0 ((pSum li (fun k => sT (hRun gp gi am Lo Se Ef dl k σ)) nm)).toInt64))))]) ++ wM cI cZ y Lo Se Em gp gi am li dl (rK u2.1) (rT u2.1) (rE u2.1) (rD u2.1) (rF u2.1) (rS u2.1) (rC u2.1) u2.2 (nI 0)) H := hP
  have hD : va_D A ((wC cI cZ cO x a t b (ck + nm) (pHo li (fun k => sT (hRun gp gi am Lo Se Ef dl k σ)) Ho nm) (sT (hRun gp gi am Lo Se Ef dl nm σ)) (sE (hRun gp gi am Lo Se Ef dl nm σ)) (sD (hRun gp gi am Lo Se Ef dl nm σ)) (sF (hRun gp gi am Lo Se Ef dl nm σ)) (sS (hRun gp gi am Lo Se Ef dl nm σ)) (sC (hRun gp gi am Lo Se Ef dl nm σ)) (sL (hRun gp gi am Lo Se Ef dl nm σ)) (sT ρ) (sE ρ) (sD ρ) (sF ρ) (sS ρ) (sC ρ) (sL ρ) Lo Se Ef gp gi am li dl ++ [(o, .inl (cJ, 1, .inr (.inl (vp_updL g 0 ((pSum li (fun k => sT (hRun gp gi am Lo Se Ef dl k σ)) nm)).toInt64))))]) ++ wM cI cZ y Lo Se Em gp gi am li dl (rK u2.1) (rT u2.1) (rE u2.1) (rD u2.1) (rF u2.1) (rS u2.1) (rC u2.1) u2.2 (nI 0)) := hD
  refine lv_istore (lv' := [(6, .int (pSum li (fun k => sT (hRun gp gi am Lo Se Ef dl k σ)) nm)), (5, .int (nI 0)), (0, .ref bs), (1, .ref (x 0)), (2, .ref (y 0)), (3, .ref o), (4, .int (nI i))]) hx hb dL_law_747 hl (by decide) rfl (fun ls hl => ?_)
  refine lv_aload_n hx hb dL_law_749 rfl (lv_at hl 4 rfl) ?_
  refine kCallS_i (mc := 0) (ms := 0) (W1 := fun _ : Unit => wM cI cZ y Lo Se Em gp gi am li dl (rK u2.1) (rT u2.1) (rE u2.1) (rD u2.1) (rF u2.1) (rS u2.1) (rC u2.1) u2.2 (nI 0)) (fun _ _ h => h) hP hD hS hA (fun _ => rfl) (va_runV (As := []) (rest := []) ⟨hx, hb, hml, hown, hts⟩ (c_X3_thrown l D cI cZ cO cJ y Lo Se Em gp gi am li dl (rK u2.1) (rT u2.1) (rE u2.1) (rD u2.1) (rF u2.1) (rS u2.1) (rC u2.1) u2.2 (nI 0) H.size) (cwV (rm := rmX3_thrown) 0 hts gL_law_X3_thrown rfl rfl rfl (by decide +kernel) ⟨Nat.le_of_ble_eq_true rfl, Nat.le_of_ble_eq_true rfl⟩) (kPreVW hK hN (sfP hP) (sfD hD) (va_recv hK (sfP hP) (ci := 3) (q0 := 0) rfl rfl)) rfl rfl hl.1 rfl (lv_room (Nat.le_of_ble_eq_true rfl)) dL_law_750 ⟨by show _ ≤ 653765; omega, by show _ ≤ 7134809; omega⟩) (fun r9 u3 H locs hr9 hP hD hS => ?_)
  subst hr9
  have hP : va_P D vwCl ((wC cI cZ cO x a t b (ck + nm) (pHo li (fun k => sT (hRun gp gi am Lo Se Ef dl k σ)) Ho nm) (sT (hRun gp gi am Lo Se Ef dl nm σ)) (sE (hRun gp gi am Lo Se Ef dl nm σ)) (sD (hRun gp gi am Lo Se Ef dl nm σ)) (sF (hRun gp gi am Lo Se Ef dl nm σ)) (sS (hRun gp gi am Lo Se Ef dl nm σ)) (sC (hRun gp gi am Lo Se Ef dl nm σ)) (sL (hRun gp gi am Lo Se Ef dl nm σ)) (sT ρ) (sE ρ) (sD ρ) (sF ρ) (sS ρ) (sC ρ) (sL ρ) Lo Se Ef gp gi am li dl ++ [(o, .inl (cJ, 1, .inr (.inl (vp_updL g 0 ((pSum li (fun k => sT (hRun gp gi am Lo Se Ef dl k σ)) nm)).toInt64))))]) ++ wM cI cZ y Lo Se Em gp gi am li dl (rK u2.1) (rT u2.1) (rE u2.1) (rD u2.1) (rF u2.1) (rS u2.1) (rC u2.1) u2.2 (nI 0)) H := hP
  have hD : va_D A ((wC cI cZ cO x a t b (ck + nm) (pHo li (fun k => sT (hRun gp gi am Lo Se Ef dl k σ)) Ho nm) (sT (hRun gp gi am Lo Se Ef dl nm σ)) (sE (hRun gp gi am Lo Se Ef dl nm σ)) (sD (hRun gp gi am Lo Se Ef dl nm σ)) (sF (hRun gp gi am Lo Se Ef dl nm σ)) (sS (hRun gp gi am Lo Se Ef dl nm σ)) (sC (hRun gp gi am Lo Se Ef dl nm σ)) (sL (hRun gp gi am Lo Se Ef dl nm σ)) (sT ρ) (sE ρ) (sD ρ) (sF ρ) (sS ρ) (sC ρ) (sL ρ) Lo Se Ef gp gi am li dl ++ [(o, .inl (cJ, 1, .inr (.inl (vp_updL g 0 ((pSum li (fun k => sT (hRun gp gi am Lo Se Ef dl k σ)) nm)).toInt64))))]) ++ wM cI cZ y Lo Se Em gp gi am li dl (rK u2.1) (rT u2.1) (rE u2.1) (rD u2.1) (rF u2.1) (rS u2.1) (rC u2.1) u2.2 (nI 0)) := hD
  refine lv_iload hx hb dL_law_753 (lv_at hl 1 rfl) ?_
  refine lv_icmp_eq (tgt := 760) hx hb dL_law_755 (by decide) (fun _ => ?_) (fun c9 => absurd rfl c9)
  refine lv_iload hx hb dL_law_760 (lv_at hl 1 rfl) ?_
  refine lv_if_ne (tgt := 777) hx hb dL_law_762 (by decide) (fun c9 => absurd rfl c9) (fun _ => ?_)
  refine lv_aload_n hx hb dL_law_765 rfl (lv_at hl 5 rfl) ?_
  refine lv_iconst (v := nI 0) hx hb dL_law_766 (by decide +kernel) ?_
  refine k_laldS hx hb hK 3 rfl hP dL_law_767 ?_
  refine lv_iload hx hb dL_law_768 (lv_at hl 0 rfl) ?_
  refine lv_i2l hx hb dL_law_770 rfl ?_
  refine k_lcmp0 (pk_uLs.trans (congrArg Int32.toInt64 rfl)) hx hb dL_law_771 ?_
  refine lv_if_eq (tgt := 777) hx hb dL_law_772 (by decide) (fun _ => ?_) (fun c9 => absurd rfl c9)
  refine lv_goto (tgt := 1234) hx hb dL_law_777 (by decide) ?_
  refine lv_iinc (v := nI (i + 4)) (lv' := [(4, .int (nI (i + 4))), (6, .int (pSum li (fun k => sT (hRun gp gi am Lo Se Ef dl k σ)) nm)), (5, .int (nI 0)), (0, .ref bs), (1, .ref (x 0)), (2, .ref (y 0)), (3, .ref o)]) hx hb dL_law_1234 hl (k := 6) rfl (nI_add _ 4) (by decide) rfl (fun ls hl => ?_)
  refine lv_goto (tgt := 23) hx hb dL_law_1237 (by decide) ?_
  refine W.widen (k := cl + 1) (n := sl + 6) (by omega) (by omega) ?_
  exact kk (hRun gp gi am Lo Se Ef dl nm σ) ρ u2.1 (ck + nm) (pHo li (fun k => sT (hRun gp gi am Lo Se Ef dl k σ)) Ho nm) u2.2 Lo Se Em Ef gp gi am li dl _ _ ⟨hu.1, hI.2.1, by rw [hu.2.1, hI.2.2.1], h3, hu.2.2⟩ H locs hP hD hS ls (lv_sub hl [3, 4, 5, 6, 0] rfl)

set_option maxHeartbeats 4000000 in
set_option maxRecDepth 100000 in
theorem lb_pass_two (nm : Nat) (e1 : xs (i + 1) = nI nm) (h1 : 0 < nm) (h2 : nm ≤ 300) (h3 : 100000 < ck + nm) (h0 : LC p l s m args c D cI cZ cO cJ bs L xs A) (hi : i + 4 ≤ L) (hcl : cl + 1 ≤ 653765) (hsl : sl + 6 ≤ 7134809) (hI : LI σ μ ck Ho Hm Lo Se Em Ef gp gi am dl) (hP : va_P D vwCl (wL cI cZ cO cJ x a t b y o σ ρ μ ck Ho Hm Lo Se Em Ef gp gi am li dl g th) H) (hD : va_D A (wL cI cZ cO cJ x a t b y o σ ρ μ ck Ho Hm Lo Se Em Ef gp gi am li dl g th)) (hS : va_S A s.heap H locs) (hl : lv_has ls 7 [(0, .ref bs), (1, .ref (x 0)), (2, .ref (y 0)), (3, .ref o), (4, .int (nI i))]) (kk : Hd p l e s m args below meth c D cI cZ cO cJ x a t b y o bs A Q (i + 4) (cl + 1) (sl + 6)) : W p l e room_1 s m args below meth c H locs cl sl Q (F0 m 724 ls []) := by
  obtain ⟨hx, hb, hml, hts, hown, hK, hN, hX, hC, hA, hsc, hbl, hbA, hst, hL⟩ := h0
  refine lv_aload_n hx hb dL_law_724 rfl (lv_at hl 1 rfl) ?_
  refine lv_aload_n hx hb dL_law_725 rfl (lv_at hl 0 rfl) ?_
  refine lv_iload hx hb dL_law_726 (lv_at hl 4 rfl) ?_
  refine lv_iconst (v := nI 1) hx hb dL_law_728 (by decide +kernel) ?_
  refine lv_iadd hx hb dL_law_729 ?_
  refine k_as (nI_add _ _) ?_
  refine k_sld hx hb hsc hbl hbA hS (v := nI nm) (by omega) hL e1 dL_law_730 ?_
  refine lv_aload_n hx hb dL_law_731 rfl (lv_at hl 3 rfl) ?_
  refine kCallP_i (mc := 1) (ms := 6) (W1 := fun _ : Unit => wC cI cZ cO x a t b ck Ho (sT σ) (sE σ) (sD σ) (sF σ) (sS σ) (sC σ) (sL σ) (sT ρ) (sE ρ) (sD ρ) (sF ρ) (sS ρ) (sC ρ) (sL ρ) Lo Se Ef gp gi am li dl ++ [(o, .inl (cJ, 1, .inr (.inl g)))]) (fun _ _ h => h) hP hD hS hA (fun _ => rfl) (vx_runSW (As := [.ref (x 0), .int (nI nm), .ref o]) (rest := []) ⟨hx, hb, hml, hown, hts⟩ (c_L_pass_two l hst D cI cZ cO cJ x a t b ck Ho (sT σ) (sE σ) (sD σ) (sF σ) (sS σ) (sC σ) (sL σ) (sT ρ) (sE ρ) (sD ρ) (sF ρ) (sS ρ) (sC ρ) (sL ρ) Lo Se Ef gp gi am li dl nm o g H.size h1 h2 h3 hI.2.2.2.1) (vx_cwSW (rm := rxL_pass) 3 hts gL_law_L_pass rfl rfl rfl (by decide +kernel) ⟨Nat.le_of_ble_eq_true rfl, Nat.le_of_ble_eq_true rfl⟩) (kPreSHW hK hN hX hC (pfP hP) (pfD hD) hS (kfree (pfD hD) hS hA)) rfl rfl hl.1 rfl (lv_room (Nat.le_of_ble_eq_true rfl)) dL_law_732 ⟨by show _ ≤ 653765; omega, by show _ ≤ 7134809; omega⟩) (fun r9 u H locs hr9 hP hD hS => ?_)
  subst hr9
  have hP : va_P D vwCl ((wC cI cZ cO x a t b ck Ho (sT σ) (sE σ) (sD σ) (sF σ) (sS σ) (sC σ) (sL σ) (sT ρ) (sE ρ) (sD ρ) (sF ρ) (sS ρ) (sC ρ) (sL ρ) Lo Se Ef gp gi am li dl ++ [(o, .inl (cJ, 1, .inr (.inl g)))]) ++ wM cI cZ y Lo Se Em gp gi am li dl (rK μ) (rT μ) (rE μ) (rD μ) (rF μ) (rS μ) (rC μ) Hm th) H := hP
  have hD : va_D A ((wC cI cZ cO x a t b ck Ho (sT σ) (sE σ) (sD σ) (sF σ) (sS σ) (sC σ) (sL σ) (sT ρ) (sE ρ) (sD ρ) (sF ρ) (sS ρ) (sC ρ) (sL ρ) Lo Se Ef gp gi am li dl ++ [(o, .inl (cJ, 1, .inr (.inl g)))]) ++ wM cI cZ y Lo Se Em gp gi am li dl (rK μ) (rT μ) (rE μ) (rD μ) (rF μ) (rS μ) (rC μ) Hm th) := hD
  refine lv_istore (lv' := [(5, .int (nI 2)), (0, .ref bs), (1, .ref (x 0)), (2, .ref (y 0)), (3, .ref o), (4, .int (nI i))]) hx hb dL_law_735 hl (by decide) rfl (fun ls hl => ?_)
  refine lv_aload_n hx hb dL_law_737 rfl (lv_at hl 3 rfl) ?_
  refine lv_aload_n hx hb dL_law_738 rfl (lv_at hl 1 rfl) ?_
  refine lv_iload hx hb dL_law_739 (lv_at hl 5 rfl) ?_
  refine lv_iconst (v := nI 1) hx hb dL_law_741 (by decide +kernel) ?_
  refine lv_iadd hx hb dL_law_742 ?_
  refine k_as (nI_add _ _) ?_
  refine k_sld hx hb hsc hbl hbA hS (v := nI nm) (by omega) hL e1 dL_law_743 ?_
  refine kCallS_i (mc := 0) (ms := 0) (W1 := fun _ : Unit => wM cI cZ y Lo Se Em gp gi am li dl (rK μ) (rT μ) (rE μ) (rD μ) (rF μ) (rS μ) (rC μ) Hm (nI 2)) (fun _ _ h => h) hP hD hS hA (fun _ => rfl) (va_runV (As := [.int (nI nm)]) (rest := []) ⟨hx, hb, hml, hown, hts⟩ (c_X3_pass_two l D cI cZ cO cJ y Lo Se Em gp gi am li dl (rK μ) (rT μ) (rE μ) (rD μ) (rF μ) (rS μ) (rC μ) Hm th nm H.size h1 h2 (by rw [hI.2.2.1]; exact h3) (by rw [hI.2.2.1]; exact hI.2.2.2.1)) (cwV (rm := rmX3_pass) 1 hts gL_law_X3_pass rfl rfl rfl (by decide +kernel) ⟨Nat.le_of_ble_eq_true rfl, Nat.le_of_ble_eq_true rfl⟩) (kPreVW hK hN (sfP hP) (sfD hD) (va_recv hK (sfP hP) (ci := 3) (q0 := 0) rfl rfl)) rfl rfl hl.1 rfl (lv_room (Nat.le_of_ble_eq_true rfl)) dL_law_744 ⟨by show _ ≤ 653765; omega, by show _ ≤ 7134809; omega⟩) (fun r9 u2 H locs hr9 hP hD hS => ?_)
  subst hr9
  have hP : va_P D vwCl ((wC cI cZ cO x a t b ck Ho (sT σ) (sE σ) (sD σ) (sF σ) (sS σ) (sC σ) (sL σ) (sT ρ) (sE ρ) (sD ρ) (sF ρ) (sS ρ) (sC ρ) (sL ρ) Lo Se Ef gp gi am li dl ++ [(o, .inl (cJ, 1, .inr (.inl g)))]) ++ wM cI cZ y Lo Se Em gp gi am li dl (rK μ) (rT μ) (rE μ) (rD μ) (rF μ) (rS μ) (rC μ) Hm (nI 2)) H := hP
  have hD : va_D A ((wC cI cZ cO x a t b ck Ho (sT σ) (sE σ) (sD σ) (sF σ) (sS σ) (sC σ) (sL σ) (sT ρ) (sE ρ) (sD ρ) (sF ρ) (sS ρ) (sC ρ) (sL ρ) Lo Se Ef gp gi am li dl ++ [(o, .inl (cJ, 1, .inr (.inl g)))]) ++ wM cI cZ y Lo Se Em gp gi am li dl (rK μ) (rT μ) (rE μ) (rD μ) (rF μ) (rS μ) (rC μ) Hm (nI 2)) := hD
  refine lv_istore (lv' := [(6, .int (nI 0)), (5, .int (nI 2)), (0, .ref bs), (1, .ref (x 0)), (2, .ref (y 0)), (3, .ref o), (4, .int (nI i))]) hx hb dL_law_747 hl (by decide) rfl (fun ls hl => ?_)
  refine lv_aload_n hx hb dL_law_749 rfl (lv_at hl 4 rfl) ?_
  refine kCallS_i (mc := 0) (ms := 0) (W1 := fun _ : Unit => wM cI cZ y Lo Se Em gp gi am li dl (rK μ) (rT μ) (rE μ) (rD μ) (rF μ) (rS μ) (rC μ) Hm (nI 2)) (fun _ _ h => h) hP hD hS hA (fun _ => rfl) (va_runV (As := []) (rest := []) ⟨hx, hb, hml, hown, hts⟩ (c_X3_thrown l D cI cZ cO cJ y Lo Se Em gp gi am li dl (rK μ) (rT μ) (rE μ) (rD μ) (rF μ) (rS μ) (rC μ) Hm (nI 2) H.size) (cwV (rm := rmX3_thrown) 0 hts gL_law_X3_thrown rfl rfl rfl (by decide +kernel) ⟨Nat.le_of_ble_eq_true rfl, Nat.le_of_ble_eq_true rfl⟩) (kPreVW hK hN (sfP hP) (sfD hD) (va_recv hK (sfP hP) (ci := 3) (q0 := 0) rfl rfl)) rfl rfl hl.1 rfl (lv_room (Nat.le_of_ble_eq_true rfl)) dL_law_750 ⟨by show _ ≤ 653765; omega, by show _ ≤ 7134809; omega⟩) (fun r9 u3 H locs hr9 hP hD hS => ?_)
  subst hr9
  have hP : va_P D vwCl ((wC cI cZ cO x a t b ck Ho (sT σ) (sE σ) (sD σ) (sF σ) (sS σ) (sC σ) (sL σ) (sT ρ) (sE ρ) (sD ρ) (sF ρ) (sS ρ) (sC ρ) (sL ρ) Lo Se Ef gp gi am li dl ++ [(o, .inl (cJ, 1, .inr (.inl g)))]) ++ wM cI cZ y Lo Se Em gp gi am li dl (rK μ) (rT μ) (rE μ) (rD μ) (rF μ) (rS μ) (rC μ) Hm (nI 2)) H := hP
  have hD : va_D A ((wC cI cZ cO x a t b ck Ho (sT σ) (sE σ) (sD σ) (sF σ) (sS σ) (sC σ) (sL σ) (sT ρ) (sE ρ) (sD ρ) (sF ρ) (sS ρ) (sC ρ) (sL ρ) Lo Se Ef gp gi am li dl ++ [(o, .inl (cJ, 1, .inr (.inl g)))]) ++ wM cI cZ y Lo Se Em gp gi am li dl (rK μ) (rT μ) (rE μ) (rD μ) (rF μ) (rS μ) (rC μ) Hm (nI 2)) := hD
  refine lv_iload hx hb dL_law_753 (lv_at hl 1 rfl) ?_
  refine lv_icmp_eq (tgt := 760) hx hb dL_law_755 (by decide) (fun _ => ?_) (fun c9 => absurd rfl c9)
  refine lv_iload hx hb dL_law_760 (lv_at hl 1 rfl) ?_
  refine lv_if_ne (tgt := 777) hx hb dL_law_762 (by decide) (fun _ => ?_) (fun c9 => absurd c9 (by decide))
  refine lv_goto (tgt := 1234) hx hb dL_law_777 (by decide) ?_
  refine lv_iinc (v := nI (i + 4)) (lv' := [(4, .int (nI (i + 4))), (6, .int (nI 0)), (5, .int (nI 2)), (0, .ref bs), (1, .ref (x 0)), (2, .ref (y 0)), (3, .ref o)]) hx hb dL_law_1234 hl (k := 6) rfl (nI_add _ 4) (by decide) rfl (fun ls hl => ?_)
  refine lv_goto (tgt := 23) hx hb dL_law_1237 (by decide) ?_
  refine W.widen (k := cl + 1) (n := sl + 6) (by omega) (by omega) ?_
  exact kk σ ρ μ ck Ho Hm Lo Se Em Ef gp gi am li dl _ _ hI H locs hP hD hS ls (lv_sub hl [3, 4, 5, 6, 0] rfl)

end LB
