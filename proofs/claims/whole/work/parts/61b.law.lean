section LB
variable {p : Program} {l : Launch} {e : Env} {s : State} {m : MethodId} {args : Array Value} {below : List Frame} {meth : Method} {c : Code} {Q : State → Prop} {D : va_G} {cI cZ cO cJ : ClassId} {x a t b y : Nat → Nat} {o bs L : Nat} {xs : Nat → Int32} {A : Nat → Prop} {i cl sl : Nat}
variable {σ ρ : HS} {μ : MS} {ck : Nat} {Ho Hm Lo Se Em : Nat → Int32} {Ef : Nat → Nat → Int32} {gp gi am li : Int32} {dl : Nat} {g : Nat → Int64} {th : Int32} {H : Heap} {locs : List Loc} {ls : Array Slot}
set_option maxHeartbeats 4000000 in
set_option maxRecDepth 100000 in
theorem lb_setDelay_bad (h : ¬ inR (xs (i + 1)) (nI 0) (nI 8)) (h0 : LC p l s m args c D cI cZ cO cJ bs L xs A) (hi : i + 4 ≤ L) (hcl : cl + 1 ≤ 653765) (hsl : sl + 6 ≤ 7134809) (hI : LI σ μ ck Ho Hm Lo Se Em Ef gp gi am dl) (hP : va_P D vwCl (wL cI cZ cO cJ x a t b y o σ ρ μ ck Ho Hm Lo Se Em Ef gp gi am li dl g th) H) (hD : va_D A (wL cI cZ cO cJ x a t b y o σ ρ μ ck Ho Hm Lo Se Em Ef gp gi am li dl g th)) (hS : va_S A s.heap H locs) (hl : lv_has ls 7 [(0, .ref bs), (1, .ref (x 0)), (2, .ref (y 0)), (3, .ref o), (4, .int (nI i))]) (kk : Hd p l e s m args below meth c D cI cZ cO cJ x a t b y o bs A Q (i + 4) (cl + 1) (sl + 6)) : W p l e room_1 s m args below meth c H locs cl sl Q (F0 m 444 ls []) := by
  obtain ⟨hx, hb, hml, hts, hown, hK, hN, hX, hC, hA, hsc, hbl, hbA, hst, hL⟩ := h0
  refine lv_aload_n hx hb dL_law_444 rfl (lv_at hl 1 rfl) ?_
  refine lv_aload_n hx hb dL_law_445 rfl (lv_at hl 0 rfl) ?_
  refine lv_iload hx hb dL_law_446 (lv_at hl 4 rfl) ?_
  refine lv_iconst (v := nI 1) hx hb dL_law_448 (by decide +kernel) ?_
  refine lv_iadd hx hb dL_law_449 ?_
  refine k_as (nI_add _ _) ?_
  refine k_sld hx hb hsc hbl hbA hS (v := xs (i + 1)) (by omega) hL rfl dL_law_450 ?_
  refine lv_aload_n hx hb dL_law_451 rfl (lv_at hl 3 rfl) ?_
  refine kCallP_i (mc := 1) (ms := 6) (W1 := fun _ : Unit => wC cI cZ cO x a t b ck Ho (sT σ) (sE σ) (sD σ) (sF σ) (sS σ) (sC σ) (sL σ) (sT ρ) (sE ρ) (sD ρ) (sF ρ) (sS ρ) (sC ρ) (sL ρ) Lo Se Ef gp gi am li dl ++ [(o, .inl (cJ, 1, .inr (.inl g)))]) (fun _ _ h => h) hP hD hS hA (fun _ => rfl) (vx_runSW (As := [.ref (x 0), .int (xs (i + 1)), .ref o]) (rest := []) ⟨hx, hb, hml, hown, hts⟩ (c_L_setDelay_bad l hst D cI cZ cO cJ x a t b ck Ho (sT σ) (sE σ) (sD σ) (sF σ) (sS σ) (sC σ) (sL σ) (sT ρ) (sE ρ) (sD ρ) (sF ρ) (sS ρ) (sC ρ) (sL ρ) Lo Se Ef gp gi am li dl (xs (i + 1)) o g H.size h) (vx_cwSW (rm := rxL_setDelay) 3 hts gL_law_L_setDelay rfl rfl rfl (by decide +kernel) ⟨Nat.le_of_ble_eq_true rfl, Nat.le_of_ble_eq_true rfl⟩) (kPreSHW hK hN hX hC (pfP hP) (pfD hD) hS (kfree (pfD hD) hS hA)) rfl rfl hl.1 rfl (lv_room (Nat.le_of_ble_eq_true rfl)) dL_law_452 ⟨by show _ ≤ 653765; omega, by show _ ≤ 7134809; omega⟩) (fun r9 u H locs hr9 hP hD hS => ?_)
  subst hr9
  have hP : va_P D vwCl ((wC cI cZ cO x a t b ck Ho (sT σ) (sE σ) (sD σ) (sF σ) (sS σ) (sC σ) (sL σ) (sT ρ) (sE ρ) (sD ρ) (sF ρ) (sS ρ) (sC ρ) (sL ρ) Lo Se Ef gp gi am li dl ++ [(o, .inl (cJ, 1, .inr (.inl g)))]) ++ wM cI cZ y Lo Se Em gp gi am li dl (rK μ) (rT μ) (rE μ) (rD μ) (rF μ) (rS μ) (rC μ) Hm th) H := hP
  have hD : va_D A ((wC cI cZ cO x a t b ck Ho (sT σ) (sE σ) (sD σ) (sF σ) (sS σ) (sC σ) (sL σ) (sT ρ) (sE ρ) (sD ρ) (sF ρ) (sS ρ) (sC ρ) (sL ρ) Lo Se Ef gp gi am li dl ++ [(o, .inl (cJ, 1, .inr (.inl g)))]) ++ wM cI cZ y Lo Se Em gp gi am li dl (rK μ) (rT μ) (rE μ) (rD μ) (rF μ) (rS μ) (rC μ) Hm th) := hD
  refine lv_istore (lv' := [(5, .int (nI 1)), (0, .ref bs), (1, .ref (x 0)), (2, .ref (y 0)), (3, .ref o), (4, .int (nI i))]) hx hb dL_law_455 hl (by decide) rfl (fun ls hl => ?_)
  refine lv_aload_n hx hb dL_law_457 rfl (lv_at hl 3 rfl) ?_
  refine lv_aload_n hx hb dL_law_458 rfl (lv_at hl 1 rfl) ?_
  refine lv_iload hx hb dL_law_459 (lv_at hl 5 rfl) ?_
  refine lv_iconst (v := nI 1) hx hb dL_law_461 (by decide +kernel) ?_
  refine lv_iadd hx hb dL_law_462 ?_
  refine k_as (nI_add _ _) ?_
  refine k_sld hx hb hsc hbl hbA hS (v := xs (i + 1)) (by omega) hL rfl dL_law_463 ?_
  refine kCallS_i (mc := 0) (ms := 0) (W1 := fun _ : Unit => wM cI cZ y Lo Se Em gp gi am li dl (rK μ) (rT μ) (rE μ) (rD μ) (rF μ) (rS μ) (rC μ) Hm (nI 1)) (fun _ _ h => h) hP hD hS hA (fun _ => rfl) (va_runV (As := [.int (xs (i + 1))]) (rest := []) ⟨hx, hb, hml, hown, hts⟩ (c_X3_setDelay_bad l D cI cZ cO cJ y Lo Se Em gp gi am li dl (rK μ) (rT μ) (rE μ) (rD μ) (rF μ) (rS μ) (rC μ) Hm th (xs (i + 1)) H.size h) (cwV (rm := rmX3_setDelay) 1 hts gL_law_X3_setDelay rfl rfl rfl (by decide +kernel) ⟨Nat.le_of_ble_eq_true rfl, Nat.le_of_ble_eq_true rfl⟩) (kPreVW hK hN (sfP hP) (sfD hD) (va_recv hK (sfP hP) (ci := 3) (q0 := 0) rfl rfl)) rfl rfl hl.1 rfl (lv_room (Nat.le_of_ble_eq_true rfl)) dL_law_464 ⟨by show _ ≤ 653765; omega, by show _ ≤ 7134809; omega⟩) (fun r9 u2 H locs hr9 hP hD hS => ?_)
  subst hr9
  have hP : va_P D vwCl ((wC cI cZ cO x a t b ck Ho (sT σ) (sE σ) (sD σ) (sF σ) (sS σ) (sC σ) (sL σ) (sT ρ) (sE ρ) (sD ρ) (sF ρ) (sS ρ) (sC ρ) (sL ρ) Lo Se Ef gp gi am li dl ++ [(o, .inl (cJ, 1, .inr (.inl g)))]) ++ wM cI cZ y Lo Se Em gp gi am li dl (rK μ) (rT μ) (rE μ) (rD μ) (rF μ) (rS μ) (rC μ) Hm (nI 1)) H := hP
  have hD : va_D A ((wC cI cZ cO x a t b ck Ho (sT σ) (sE σ) (sD σ) (sF σ) (sS σ) (sC σ) (sL σ) (sT ρ) (sE ρ) (sD ρ) (sF ρ) (sS ρ) (sC ρ) (sL ρ) Lo Se Ef gp gi am li dl ++ [(o, .inl (cJ, 1, .inr (.inl g)))]) ++ wM cI cZ y Lo Se Em gp gi am li dl (rK μ) (rT μ) (rE μ) (rD μ) (rF μ) (rS μ) (rC μ) Hm (nI 1)) := hD
  refine lv_istore (lv' := [(6, .int (nI 0)), (5, .int (nI 1)), (0, .ref bs), (1, .ref (x 0)), (2, .ref (y 0)), (3, .ref o), (4, .int (nI i))]) hx hb dL_law_467 hl (by decide) rfl (fun ls hl => ?_)
  refine lv_aload_n hx hb dL_law_469 rfl (lv_at hl 4 rfl) ?_
  refine kCallS_i (mc := 0) (ms := 0) (W1 := fun _ : Unit => wM cI cZ y Lo Se Em gp gi am li dl (rK μ) (rT μ) (rE μ) (rD μ) (rF μ) (rS μ) (rC μ) Hm (nI 1)) (fun _ _ h => h) hP hD hS hA (fun _ => rfl) (va_runV (As := []) (rest := []) ⟨hx, hb, hml, hown, hts⟩ (c_X3_thrown l D cI cZ cO cJ y Lo Se Em gp gi am li dl (rK μ) (rT μ) (rE μ) (rD μ) (rF μ) (rS μ) (rC μ) Hm (nI 1) H.size) (cwV (rm := rmX3_thrown) 0 hts gL_law_X3_thrown rfl rfl rfl (by decide +kernel) ⟨Nat.le_of_ble_eq_true rfl, Nat.le_of_ble_eq_true rfl⟩) (kPreVW hK hN (sfP hP) (sfD hD) (va_recv hK (sfP hP) (ci := 3) (q0 := 0) rfl rfl)) rfl rfl hl.1 rfl (lv_room (Nat.le_of_ble_eq_true rfl)) dL_law_470 ⟨by show _ ≤ 653765; omega, by show _ ≤ 7134809; omega⟩) (fun r9 u3 H locs hr9 hP hD hS => ?_)
  subst hr9
  have hP : va_P D vwCl ((wC cI cZ cO x a t b ck Ho (sT σ) (sE σ) (sD σ) (sF σ) (sS σ) (sC σ) (sL σ) (sT ρ) (sE ρ) (sD ρ) (sF ρ) (sS ρ) (sC ρ) (sL ρ) Lo Se Ef gp gi am li dl ++ [(o, .inl (cJ, 1, .inr (.inl g)))]) ++ wM cI cZ y Lo Se Em gp gi am li dl (rK μ) (rT μ) (rE μ) (rD μ) (rF μ) (rS μ) (rC μ) Hm (nI 1)) H := hP
  have hD : va_D A ((wC cI cZ cO x a t b ck Ho (sT σ) (sE σ) (sD σ) (sF σ) (sS σ) (sC σ) (sL σ) (sT ρ) (sE ρ) (sD ρ) (sF ρ) (sS ρ) (sC ρ) (sL ρ) Lo Se Ef gp gi am li dl ++ [(o, .inl (cJ, 1, .inr (.inl g)))]) ++ wM cI cZ y Lo Se Em gp gi am li dl (rK μ) (rT μ) (rE μ) (rD μ) (rF μ) (rS μ) (rC μ) Hm (nI 1)) := hD
  refine lv_iload hx hb dL_law_473 (lv_at hl 1 rfl) ?_
  refine lv_icmp_eq (tgt := 480) hx hb dL_law_475 (by decide) (fun _ => ?_) (fun c9 => absurd rfl c9)
  refine lv_iload hx hb dL_law_480 (lv_at hl 1 rfl) ?_
  refine lv_if_ne (tgt := 497) hx hb dL_law_482 (by decide) (fun _ => ?_) (fun c9 => absurd c9 (by decide))
  refine lv_goto (tgt := 1234) hx hb dL_law_497 (by decide) ?_
  refine lv_iinc (v := nI (i + 4)) (lv' := [(4, .int (nI (i + 4))), (6, .int (nI 0)), (5, .int (nI 1)), (0, .ref bs), (1, .ref (x 0)), (2, .ref (y 0)), (3, .ref o)]) hx hb dL_law_1234 hl (k := 6) rfl (nI_add _ 4) (by decide) rfl (fun ls hl => ?_)
  refine lv_goto (tgt := 23) hx hb dL_law_1237 (by decide) ?_
  refine W.widen (k := cl + 1) (n := sl + 6) (by omega) (by omega) ?_
  exact kk σ ρ μ ck Ho Hm Lo Se Em Ef gp gi am li dl _ _ hI H locs hP hD hS ls (lv_sub hl [3, 4, 5, 6, 0] rfl)

set_option maxHeartbeats 4000000 in
set_option maxRecDepth 100000 in
theorem lb_fail_ok (f : Nat) (e1 : xs (i + 1) = nI f) (hf : f < 8) (hF : sF σ f = 0) (h0 : LC p l s m args c D cI cZ cO cJ bs L xs A) (hi : i + 4 ≤ L) (hcl : cl + 1 ≤ 653765) (hsl : sl + 6 ≤ 7134809) (hI : LI σ μ ck Ho Hm Lo Se Em Ef gp gi am dl) (hP : va_P D vwCl (wL cI cZ cO cJ x a t b y o σ ρ μ ck Ho Hm Lo Se Em Ef gp gi am li dl g th) H) (hD : va_D A (wL cI cZ cO cJ x a t b y o σ ρ μ ck Ho Hm Lo Se Em Ef gp gi am li dl g th)) (hS : va_S A s.heap H locs) (hl : lv_has ls 7 [(0, .ref bs), (1, .ref (x 0)), (2, .ref (y 0)), (3, .ref o), (4, .int (nI i))]) (kk : Hd p l e s m args below meth c D cI cZ cO cJ x a t b y o bs A Q (i + 4) (cl + 1) (sl + 6)) : W p l e room_1 s m args below meth c H locs cl sl Q (F0 m 500 ls []) := by
  obtain ⟨hx, hb, hml, hts, hown, hK, hN, hX, hC, hA, hsc, hbl, hbA, hst, hL⟩ := h0
  have hFm : rF μ f = 0 := by rw [rel0_F hI.1 hf]; exact hF
  refine lv_aload_n hx hb dL_law_500 rfl (lv_at hl 1 rfl) ?_
  refine lv_aload_n hx hb dL_law_501 rfl (lv_at hl 0 rfl) ?_
  refine lv_iload hx hb dL_law_502 (lv_at hl 4 rfl) ?_
  refine lv_iconst (v := nI 1) hx hb dL_law_504 (by decide +kernel) ?_
  refine lv_iadd hx hb dL_law_505 ?_
  refine k_as (nI_add _ _) ?_
  refine k_sld hx hb hsc hbl hbA hS (v := nI f) (by omega) hL e1 dL_law_506 ?_
  refine lv_aload_n hx hb dL_law_507 rfl (lv_at hl 3 rfl) ?_
  refine kCallP_i (mc := 0) (ms := 0) (W1 := fun _ : Unit => wC cI cZ cO x a t b ck Ho (sT σ) (sE σ) (sD σ) (upd (sF σ) f (nI 1)) (upd (sS σ) f (nI 0)) (sC σ) (sL σ) (sT ρ) (sE ρ) (sD ρ) (sF ρ) (sS ρ) (sC ρ) (sL ρ) Lo Se Ef gp gi am li dl ++ [(o, .inl (cJ, 1, .inr (.inl (vp_updL g 0 ((mCnt (upd (sF σ) f (nI 1)) 8)).toInt64))))]) (fun _ _ h => h) hP hD hS hA (fun _ => rfl) (vx_runSW (As := [.ref (x 0), .int (nI f), .ref o]) (rest := []) ⟨hx, hb, hml, hown, hts⟩ (c_L_fail l D cI cZ cO cJ x a t b ck Ho (sT σ) (sE σ) (sD σ) (sF σ) (sS σ) (sC σ) (sL σ) (sT ρ) (sE ρ) (sD ρ) (sF ρ) (sS ρ) (sC ρ) (sL ρ) Lo Se Ef gp gi am li dl f o g H.size hf hF) (vx_cwSW (rm := rmL_fail) 3 hts gL_law_L_fail rfl rfl rfl (by decide +kernel) ⟨Nat.le_of_ble_eq_true rfl, Nat.le_of_ble_eq_true rfl⟩) (kPreSHW hK hN hX hC (pfP hP) (pfD hD) hS (kfree (pfD hD) hS hA)) rfl rfl hl.1 rfl (lv_room (Nat.le_of_ble_eq_true rfl)) dL_law_508 ⟨by show _ ≤ 653765; omega, by show _ ≤ 7134809; omega⟩) (fun r9 u H locs hr9 hP hD hS => ?_)
  subst hr9
  have hP : va_P D vwCl ((wC cI cZ cO x a t b ck Ho (sT σ) (sE σ) (sD σ) (upd (sF σ) f (nI 1)) (upd (sS σ) f (nI 0)) (sC σ) (sL σ) (sT ρ) (sE ρ) (sD ρ) (sF ρ) (sS ρ) (sC ρ) (sL ρ) Lo Se Ef gp gi am li dl ++ [(o, .inl (cJ, 1, .inr (.inl (vp_updL g 0 ((mCnt (upd (sF σ) f (nI 1)) 8)).toInt64))))]) ++ wM cI cZ y Lo Se Em gp gi am li dl (rK μ) (rT μ) (rE μ) (rD μ) (rF μ) (rS μ) (rC μ) Hm th) H := hP
  have hD : va_D A ((wC cI cZ cO x a t b ck Ho (sT σ) (sE σ) (sD σ) (upd (sF σ) f (nI 1)) (upd (sS σ) f (nI 0)) (sC σ) (sL σ) (sT ρ) (sE ρ) (sD ρ) (sF ρ) (sS ρ) (sC ρ) (sL ρ) Lo Se Ef gp gi am li dl ++ [(o, .inl (cJ, 1, .inr (.inl (vp_updL g 0 ((mCnt (upd (sF σ) f (nI 1)) 8)).toInt64))))]) ++ wM cI cZ y Lo Se Em gp gi am li dl (rK μ) (rT μ) (rE μ) (rD μ) (rF μ) (rS μ) (rC μ) Hm th) := hD
  refine lv_istore (lv' := [(5, .int (nI 0)), (0, .ref bs), (1, .ref (x 0)), (2, .ref (y 0)), (3, .ref o), (4, .int (nI i))]) hx hb dL_law_511 hl (by decide) rfl (fun ls hl => ?_)
  refine lv_aload_n hx hb dL_law_513 rfl (lv_at hl 3 rfl) ?_
  refine lv_aload_n hx hb dL_law_514 rfl (lv_at hl 1 rfl) ?_
  refine lv_iload hx hb dL_law_515 (lv_at hl 5 rfl) ?_
  refine lv_iconst (v := nI 1) hx hb dL_law_517 (by decide +kernel) ?_
  refine lv_iadd hx hb dL_law_518 ?_
  refine k_as (nI_add _ _) ?_
  refine k_sld hx hb hsc hbl hbA hS (v := nI f) (by omega) hL e1 dL_law_519 ?_
  refine kCallS_i (mc := 0) (ms := 0) (W1 := fun _ : Unit => wM cI cZ y Lo Se Em gp gi am li dl (rK μ) (rT μ) (rE μ) (rD μ) (upd (rF μ) f (nI 1)) (upd (rS μ) f (nI 0)) (rC μ) Hm (nI 0)) (fun _ _ h => h) hP hD hS hA (fun _ => rfl) (va_runV (As := [.int (nI f)]) (rest := []) ⟨hx, hb, hml, hown, hts⟩ (c_X3_fail_ok l D cI cZ cO cJ y Lo Se Em gp gi am li dl (rK μ) (rT μ) (rE μ) (rD μ) (rF μ) (rS μ) (rC μ) Hm th f H.size hf hFm) (cwV (rm := rmX3_fail) 1 hts gL_law_X3_fail rfl rfl rfl (by decide +kernel) ⟨Nat.le_of_ble_eq_true rfl, Nat.le_of_ble_eq_true rfl⟩) (kPreVW hK hN (sfP hP) (sfD hD) (va_recv hK (sfP hP) (ci := 3) (q0 := 0) rfl rfl)) rfl rfl hl.1 rfl (lv_room (Nat.le_of_ble_eq_true rfl)) dL_law_520 ⟨by show _ ≤ 653765; omega, by show _ ≤ 7134809; omega⟩) (fun r9 u2 H locs hr9 hP hD hS => ?_)
  subst hr9
  have hP : va_P D vwCl ((wC cI cZ cO x a t b ck Ho (sT σ) (sE σ) (sD σ) (upd (sF σ) f (nI 1)) (upd (sS σ) f (nI 0)) (sC σ) (sL σ) (sT ρ) (sE ρ) (sD ρ) (sF ρ) (sS ρ) (sC ρ) (sL ρ) Lo Se Ef gp gi am li dl ++ [(o, .inl (cJ, 1, .inr (.inl (vp_updL g 0 ((mCnt (upd (sF σ) f (nI 1)) 8)).toInt64))))]) ++ wM cI cZ y Lo Se Em gp gi am li dl (rK μ) (rT μ) (rE μ) (rD μ) (upd (rF μ) f (nI 1)) (upd (rS μ) f (nI 0)) (rC μ) Hm (nI 0)) H := hP
  have hD : va_D A ((wC cI cZ cO x a t b ck Ho (sT σ) (sE σ) (sD σ) (upd (sF σ) f (nI 1)) (upd (sS σ) f (nI 0)) (sC σ) (sL σ) (sT ρ) (sE ρ) (sD ρ) (sF ρ) (sS ρ) (sC ρ) (sL ρ) Lo Se Ef gp gi am li dl ++ [(o, .inl (cJ, 1, .inr (.inl (vp_updL g 0 ((mCnt (upd (sF σ) f (nI 1)) 8)).toInt64))))]) ++ wM cI cZ y Lo Se Em gp gi am li dl (rK μ) (rT μ) (rE μ) (rD μ) (upd (rF μ) f (nI 1)) (upd (rS μ) f (nI 0)) (rC μ) Hm (nI 0)) := hD
  refine lv_istore (lv' := [(6, .int (mCnt (upd (rF μ) f (nI 1)) 8)), (5, .int (nI 0)), (0, .ref bs), (1, .ref (x 0)), (2, .ref (y 0)), (3, .ref o), (4, .int (nI i))]) hx hb dL_law_523 hl (by decide) rfl (fun ls hl => ?_)
  refine lv_aload_n hx hb dL_law_525 rfl (lv_at hl 4 rfl) ?_
  refine kCallS_i (mc := 0) (ms := 0) (W1 := fun _ : Unit => wM cI cZ y Lo Se Em gp gi am li dl (rK μ) (rT μ) (rE μ) (rD μ) (upd (rF μ) f (nI 1)) (upd (rS μ) f (nI 0)) (rC μ) Hm (nI 0)) (fun _ _ h => h) hP hD hS hA (fun _ => rfl) (va_runV (As := []) (rest := []) ⟨hx, hb, hml, hown, hts⟩ (c_X3_thrown l D cI cZ cO cJ y Lo Se Em gp gi am li dl (rK μ) (rT μ) (rE μ) (rD μ) (upd (rF μ) f (nI 1)) (upd (rS μ) f (nI 0)) (rC μ) Hm (nI 0) H.size) (cwV (rm := rmX3_thrown) 0 hts gL_law_X3_thrown rfl rfl rfl (by decide +kernel) ⟨Nat.le_of_ble_eq_true rfl, Nat.le_of_ble_eq_true rfl⟩) (kPreVW hK hN (sfP hP) (sfD hD) (va_recv hK (sfP hP) (ci := 3) (q0 := 0) rfl rfl)) rfl rfl hl.1 rfl (lv_room (Nat.le_of_ble_eq_true rfl)) dL_law_526 ⟨by show _ ≤ 653765; omega, by show _ ≤ 7134809; omega⟩) (fun r9 u3 H locs hr9 hP hD hS => ?_)
  subst hr9
  have hP : va_P D vwCl ((wC cI cZ cO x a t b ck Ho (sT σ) (sE σ) (sD σ) (upd (sF σ) f (nI 1)) (upd (sS σ) f (nI 0)) (sC σ) (sL σ) (sT ρ) (sE ρ) (sD ρ) (sF ρ) (sS ρ) (sC ρ) (sL ρ) Lo Se Ef gp gi am li dl ++ [(o, .inl (cJ, 1, .inr (.inl (vp_updL g 0 ((mCnt (upd (sF σ) f (nI 1)) 8)).toInt64))))]) ++ wM cI cZ y Lo Se Em gp gi am li dl (rK μ) (rT μ) (rE μ) (rD μ) (upd (rF μ) f (nI 1)) (upd (rS μ) f (nI 0)) (rC μ) Hm (nI 0)) H := hP
  have hD : va_D A ((wC cI cZ cO x a t b ck Ho (sT σ) (sE σ) (sD σ) (upd (sF σ) f (nI 1)) (upd (sS σ) f (nI 0)) (sC σ) (sL σ) (sT ρ) (sE ρ) (sD ρ) (sF ρ) (sS ρ) (sC ρ) (sL ρ) Lo Se Ef gp gi am li dl ++ [(o, .inl (cJ, 1, .inr (.inl (vp_updL g 0 ((mCnt (upd (sF σ) f (nI 1)) 8)).toInt64))))]) ++ wM cI cZ y Lo Se Em gp gi am li dl (rK μ) (rT μ) (rE μ) (rD μ) (upd (rF μ) f (nI 1)) (upd (rS μ) f (nI 0)) (rC μ) Hm (nI 0)) := hD
  refine lv_iload hx hb dL_law_529 (lv_at hl 1 rfl) ?_
  refine lv_icmp_eq (tgt := 536) hx hb dL_law_531 (by decide) (fun _ => ?_) (fun c9 => absurd rfl c9)
  refine lv_iload hx hb dL_law_536 (lv_at hl 1 rfl) ?_
  refine lv_if_ne (tgt := 553) hx hb dL_law_538 (by decide) (fun c9 => absurd rfl c9) (fun _ => ?_)
  refine lv_aload_n hx hb dL_law_541 rfl (lv_at hl 5 rfl) ?_
  refine lv_iconst (v := nI 0) hx hb dL_law_542 (by decide +kernel) ?_
  refine k_laldS hx hb hK 3 rfl hP dL_law_543 ?_
  refine lv_iload hx hb dL_law_544 (lv_at hl 0 rfl) ?_
  refine lv_i2l hx hb dL_law_546 rfl ?_
  refine k_lcmp0 (pk_uLs.trans (congrArg Int32.toInt64 (LI_cF hI))) hx hb dL_law_547 ?_
  refine lv_if_eq (tgt := 553) hx hb dL_law_548 (by decide) (fun _ => ?_) (fun c9 => absurd rfl c9)
  refine lv_goto (tgt := 1234) hx hb dL_law_553 (by decide) ?_
  refine lv_iinc (v := nI (i + 4)) (lv' := [(4, .int (nI (i + 4))), (6, .int (mCnt (upd (rF μ) f (nI 1)) 8)), (5, .int (nI 0)), (0, .ref bs), (1, .ref (x 0)), (2, .ref (y 0)), (3, .ref o)]) hx hb dL_law_1234 hl (k := 6) rfl (nI_add _ 4) (by decide) rfl (fun ls hl => ?_)
  refine lv_goto (tgt := 23) hx hb dL_law_1237 (by decide) ?_
  refine W.widen (k := cl + 1) (n := sl + 6) (by omega) (by omega) ?_
  exact kk (sT σ, sE σ, sD σ, upd (sF σ) f (nI 1), upd (sS σ) f (nI 0), sC σ, sL σ) ρ (rK μ, rT μ, rE μ, rD μ, upd (rF μ) f (nI 1), upd (rS μ) f (nI 0), rC μ) ck Ho Hm Lo Se Em Ef gp gi am li dl _ _ (LI_fail hI) H locs hP hD hS ls (lv_sub hl [3, 4, 5, 6, 0] rfl)

set_option maxHeartbeats 4000000 in
set_option maxRecDepth 100000 in
theorem lb_fail_two (f : Nat) (e1 : xs (i + 1) = nI f) (hf : f < 8) (hF : ¬ sF σ f = 0) (h0 : LC p l s m args c D cI cZ cO cJ bs L xs A) (hi : i + 4 ≤ L) (hcl : cl + 1 ≤ 653765) (hsl : sl + 6 ≤ 7134809) (hI : LI σ μ ck Ho Hm Lo Se Em Ef gp gi am dl) (hP : va_P D vwCl (wL cI cZ cO cJ x a t b y o σ ρ μ ck Ho Hm Lo Se Em Ef gp gi am li dl g th) H) (hD : va_D A (wL cI cZ cO cJ x a t b y o σ ρ μ ck Ho Hm Lo Se Em Ef gp gi am li dl g th)) (hS : va_S A s.heap H locs) (hl : lv_has ls 7 [(0, .ref bs), (1, .ref (x 0)), (2, .ref (y 0)), (3, .ref o), (4, .int (nI i))]) (kk : Hd p l e s m args below meth c D cI cZ cO cJ x a t b y o bs A Q (i + 4) (cl + 1) (sl + 6)) : W p l e room_1 s m args below meth c H locs cl sl Q (F0 m 500 ls []) := by
  obtain ⟨hx, hb, hml, hts, hown, hK, hN, hX, hC, hA, hsc, hbl, hbA, hst, hL⟩ := h0
  have hFm : ¬ rF μ f = 0 := by rw [rel0_F hI.1 hf]; exact hF
  refine lv_aload_n hx hb dL_law_500 rfl (lv_at hl 1 rfl) ?_
  refine lv_aload_n hx hb dL_law_501 rfl (lv_at hl 0 rfl) ?_
  refine lv_iload hx hb dL_law_502 (lv_at hl 4 rfl) ?_
  refine lv_iconst (v := nI 1) hx hb dL_law_504 (by decide +kernel) ?_
  refine lv_iadd hx hb dL_law_505 ?_
  refine k_as (nI_add _ _) ?_
  refine k_sld hx hb hsc hbl hbA hS (v := nI f) (by omega) hL e1 dL_law_506 ?_
  refine lv_aload_n hx hb dL_law_507 rfl (lv_at hl 3 rfl) ?_
  refine kCallP_i (mc := 1) (ms := 6) (W1 := fun _ : Unit => wC cI cZ cO x a t b ck Ho (sT σ) (sE σ) (sD σ) (sF σ) (sS σ) (sC σ) (sL σ) (sT ρ) (sE ρ) (sD ρ) (sF ρ) (sS ρ) (sC ρ) (sL ρ) Lo Se Ef gp gi am li dl ++ [(o, .inl (cJ, 1, .inr (.inl g)))]) (fun _ _ h => h) hP hD hS hA (fun _ => rfl) (vx_runSW (As := [.ref (x 0), .int (nI f), .ref o]) (rest := []) ⟨hx, hb, hml, hown, hts⟩ (c_L_fail_two l hst D cI cZ cO cJ x a t b ck Ho (sT σ) (sE σ) (sD σ) (sF σ) (sS σ) (sC σ) (sL σ) (sT ρ) (sE ρ) (sD ρ) (sF ρ) (sS ρ) (sC ρ) (sL ρ) Lo Se Ef gp gi am li dl f o g H.size hf hF) (vx_cwSW (rm := rxL_fail) 3 hts gL_law_L_fail rfl rfl rfl (by decide +kernel) ⟨Nat.le_of_ble_eq_true rfl, Nat.le_of_ble_eq_true rfl⟩) (kPreSHW hK hN hX hC (pfP hP) (pfD hD) hS (kfree (pfD hD) hS hA)) rfl rfl hl.1 rfl (lv_room (Nat.le_of_ble_eq_true rfl)) dL_law_508 ⟨by show _ ≤ 653765; omega, by show _ ≤ 7134809; omega⟩) (fun r9 u H locs hr9 hP hD hS => ?_)
  subst hr9
  have hP : va_P D vwCl ((wC cI cZ cO x a t b ck Ho (sT σ) (sE σ) (sD σ) (sF σ) (sS σ) (sC σ) (sL σ) (sT ρ) (sE ρ) (sD ρ) (sF ρ) (sS ρ) (sC ρ) (sL ρ) Lo Se Ef gp gi am li dl ++ [(o, .inl (cJ, 1, .inr (.inl g)))]) ++ wM cI cZ y Lo Se Em gp gi am li dl (rK μ) (rT μ) (rE μ) (rD μ) (rF μ) (rS μ) (rC μ) Hm th) H := hP
  have hD : va_D A ((wC cI cZ cO x a t b ck Ho (sT σ) (sE σ) (sD σ) (sF σ) (sS σ) (sC σ) (sL σ) (sT ρ) (sE ρ) (sD ρ) (sF ρ) (sS ρ) (sC ρ) (sL ρ) Lo Se Ef gp gi am li dl ++ [(o, .inl (cJ, 1, .inr (.inl g)))]) ++ wM cI cZ y Lo Se Em gp gi am li dl (rK μ) (rT μ) (rE μ) (rD μ) (rF μ) (rS μ) (rC μ) Hm th) := hD
  refine lv_istore (lv' := [(5, .int (nI 2)), (0, .ref bs), (1, .ref (x 0)), (2, .ref (y 0)), (3, .ref o), (4, .int (nI i))]) hx hb dL_law_511 hl (by decide) rfl (fun ls hl => ?_)
  refine lv_aload_n hx hb dL_law_513 rfl (lv_at hl 3 rfl) ?_
  refine lv_aload_n hx hb dL_law_514 rfl (lv_at hl 1 rfl) ?_
  refine lv_iload hx hb dL_law_515 (lv_at hl 5 rfl) ?_
  refine lv_iconst (v := nI 1) hx hb dL_law_517 (by decide +kernel) ?_
  refine lv_iadd hx hb dL_law_518 ?_
  refine k_as (nI_add _ _) ?_
  refine k_sld hx hb hsc hbl hbA hS (v := nI f) (by omega) hL e1 dL_law_519 ?_
  refine kCallS_i (mc := 0) (ms := 0) (W1 := fun _ : Unit => wM cI cZ y Lo Se Em gp gi am li dl (rK μ) (rT μ) (rE μ) (rD μ) (rF μ) (rS μ) (rC μ) Hm (nI 2)) (fun _ _ h => h) hP hD hS hA (fun _ => rfl) (va_runV (As := [.int (nI f)]) (rest := []) ⟨hx, hb, hml, hown, hts⟩ (c_X3_fail_two l D cI cZ cO cJ y Lo Se Em gp gi am li dl (rK μ) (rT μ) (rE μ) (rD μ) (rF μ) (rS μ) (rC μ) Hm th f H.size hf hFm) (cwV (rm := rmX3_fail) 1 hts gL_law_X3_fail rfl rfl rfl (by decide +kernel) ⟨Nat.le_of_ble_eq_true rfl, Nat.le_of_ble_eq_true rfl⟩) (kPreVW hK hN (sfP hP) (sfD hD) (va_recv hK (sfP hP) (ci := 3) (q0 := 0) rfl rfl)) rfl rfl hl.1 rfl (lv_room (Nat.le_of_ble_eq_true rfl)) dL_law_520 ⟨by show _ ≤ 653765; omega, by show _ ≤ 7134809; omega⟩) (fun r9 u2 H locs hr9 hP hD hS => ?_)
  subst hr9
  have hP : va_P D vwCl ((wC cI cZ cO x a t b ck Ho (sT σ) (sE σ) (sD σ) (sF σ) (sS σ) (sC σ) (sL σ) (sT ρ) (sE ρ) (sD ρ) (sF ρ) (sS ρ) (sC ρ) (sL ρ) Lo Se Ef gp gi am li dl ++ [(o, .inl (cJ, 1, .inr (.inl g)))]) ++ wM cI cZ y Lo Se Em gp gi am li dl (rK μ) (rT μ) (rE μ) (rD μ) (rF μ) (rS μ) (rC μ) Hm (nI 2)) H := hP
  have hD : va_D A ((wC cI cZ cO x a t b ck Ho (sT σ) (sE σ) (sD σ) (sF σ) (sS σ) (sC σ) (sL σ) (sT ρ) (sE ρ) (sD ρ) (sF ρ) (sS ρ) (sC ρ) (sL ρ) Lo Se Ef gp gi am li dl ++ [(o, .inl (cJ, 1, .inr (.inl g)))]) ++ wM cI cZ y Lo Se Em gp gi am li dl (rK μ) (rT μ) (rE μ) (rD μ) (rF μ) (rS μ) (rC μ) Hm (nI 2)) := hD
  refine lv_istore (lv' := [(6, .int (nI 0)), (5, .int (nI 2)), (0, .ref bs), (1, .ref (x 0)), (2, .ref (y 0)), (3, .ref o), (4, .int (nI i))]) hx hb dL_law_523 hl (by decide) rfl (fun ls hl => ?_)
  refine lv_aload_n hx hb dL_law_525 rfl (lv_at hl 4 rfl) ?_
  refine kCallS_i (mc := 0) (ms := 0) (W1 := fun _ : Unit => wM cI cZ y Lo Se Em gp gi am li dl (rK μ) (rT μ) (rE μ) (rD μ) (rF μ) (rS μ) (rC μ) Hm (nI 2)) (fun _ _ h => h) hP hD hS hA (fun _ => rfl) (va_runV (As := []) (rest := []) ⟨hx, hb, hml, hown, hts⟩ (c_X3_thrown l D cI cZ cO cJ y Lo Se Em gp gi am li dl (rK μ) (rT μ) (rE μ) (rD μ) (rF μ) (rS μ) (rC μ) Hm (nI 2) H.size) (cwV (rm := rmX3_thrown) 0 hts gL_law_X3_thrown rfl rfl rfl (by decide +kernel) ⟨Nat.le_of_ble_eq_true rfl, Nat.le_of_ble_eq_true rfl⟩) (kPreVW hK hN (sfP hP) (sfD hD) (va_recv hK (sfP hP) (ci := 3) (q0 := 0) rfl rfl)) rfl rfl hl.1 rfl (lv_room (Nat.le_of_ble_eq_true rfl)) dL_law_526 ⟨by show _ ≤ 653765; omega, by show _ ≤ 7134809; omega⟩) (fun r9 u3 H locs hr9 hP hD hS => ?_)
  subst hr9
  have hP : va_P D vwCl ((wC cI cZ cO x a t b ck Ho (sT σ) (sE σ) (sD σ) (sF σ) (sS σ) (sC σ) (sL σ) (sT ρ) (sE ρ) (sD ρ) (sF ρ) (sS ρ) (sC ρ) (sL ρ) Lo Se Ef gp gi am li dl ++ [(o, .inl (cJ, 1, .inr (.inl g)))]) ++ wM cI cZ y Lo Se Em gp gi am li dl (rK μ) (rT μ) (rE μ) (rD μ) (rF μ) (rS μ) (rC μ) Hm (nI 2)) H := hP
  have hD : va_D A ((wC cI cZ cO x a t b ck Ho (sT σ) (sE σ) (sD σ) (sF σ) (sS σ) (sC σ) (sL σ) (sT ρ) (sE ρ) (sD ρ) (sF ρ) (sS ρ) (sC ρ) (sL ρ) Lo Se Ef gp gi am li dl ++ [(o, .inl (cJ, 1, .inr (.inl g)))]) ++ wM cI cZ y Lo Se Em gp gi am li dl (rK μ) (rT μ) (rE μ) (rD μ) (rF μ) (rS μ) (rC μ) Hm (nI 2)) := hD
  refine lv_iload hx hb dL_law_529 (lv_at hl 1 rfl) ?_
  refine lv_icmp_eq (tgt := 536) hx hb dL_law_531 (by decide) (fun _ => ?_) (fun c9 => absurd rfl c9)
  refine lv_iload hx hb dL_law_536 (lv_at hl 1 rfl) ?_
  refine lv_if_ne (tgt := 553) hx hb dL_law_538 (by decide) (fun _ => ?_) (fun c9 => absurd c9 (by decide))
  refine lv_goto (tgt := 1234) hx hb dL_law_553 (by decide) ?_
  refine lv_iinc (v := nI (i + 4)) (lv' := [(4, .int (nI (i + 4))), (6, .int (nI 0)), (5, .int (nI 2)), (0, .ref bs), (1, .ref (x 0)), (2, .ref (y 0)), (3, .ref o)]) hx hb dL_law_1234 hl (k := 6) rfl (nI_add _ 4) (by decide) rfl (fun ls hl => ?_)
  refine lv_goto (tgt := 23) hx hb dL_law_1237 (by decide) ?_
  refine W.widen (k := cl + 1) (n := sl + 6) (by omega) (by omega) ?_
  exact kk σ ρ μ ck Ho Hm Lo Se Em Ef gp gi am li dl _ _ hI H locs hP hD hS ls (lv_sub hl [3, 4, 5, 6, 0] rfl)

set_option maxHeartbeats 4000000 in
set_option maxRecDepth 100000 in
theorem lb_fail_bad (h : ¬ inR (xs (i + 1)) (nI 0) (nI 7)) (h0 : LC p l s m args c D cI cZ cO cJ bs L xs A) (hi : i + 4 ≤ L) (hcl : cl + 1 ≤ 653765) (hsl : sl + 6 ≤ 7134809) (hI : LI σ μ ck Ho Hm Lo Se Em Ef gp gi am dl) (hP : va_P D vwCl (wL cI cZ cO cJ x a t b y o σ ρ μ ck Ho Hm Lo Se Em Ef gp gi am li dl g th) H) (hD : va_D A (wL cI cZ cO cJ x a t b y o σ ρ μ ck Ho Hm Lo Se Em Ef gp gi am li dl g th)) (hS : va_S A s.heap H locs) (hl : lv_has ls 7 [(0, .ref bs), (1, .ref (x 0)), (2, .ref (y 0)), (3, .ref o), (4, .int (nI i))]) (kk : Hd p l e s m args below meth c D cI cZ cO cJ x a t b y o bs A Q (i + 4) (cl + 1) (sl + 6)) : W p l e room_1 s m args below meth c H locs cl sl Q (F0 m 500 ls []) := by
  obtain ⟨hx, hb, hml, hts, hown, hK, hN, hX, hC, hA, hsc, hbl, hbA, hst, hL⟩ := h0
  refine lv_aload_n hx hb dL_law_500 rfl (lv_at hl 1 rfl) ?_
  refine lv_aload_n hx hb dL_law_501 rfl (lv_at hl 0 rfl) ?_
  refine lv_iload hx hb dL_law_502 (lv_at hl 4 rfl) ?_
  refine lv_iconst (v := nI 1) hx hb dL_law_504 (by decide +kernel) ?_
  refine lv_iadd hx hb dL_law_505 ?_
  refine k_as (nI_add _ _) ?_
  refine k_sld hx hb hsc hbl hbA hS (v := xs (i + 1)) (by omega) hL rfl dL_law_506 ?_
  refine lv_aload_n hx hb dL_law_507 rfl (lv_at hl 3 rfl) ?_
  refine kCallP_i (mc := 1) (ms := 6) (W1 := fun _ : Unit => wC cI cZ cO x a t b ck Ho (sT σ) (sE σ) (sD σ) (sF σ) (sS σ) (sC σ) (sL σ) (sT ρ) (sE ρ) (sD ρ) (sF ρ) (sS ρ) (sC ρ) (sL ρ) Lo Se Ef gp gi am li dl ++ [(o, .inl (cJ, 1, .inr (.inl g)))]) (fun _ _ h => h) hP hD hS hA (fun _ => rfl) (vx_runSW (As := [.ref (x 0), .int (xs (i + 1)), .ref o]) (rest := []) ⟨hx, hb, hml, hown, hts⟩ (c_L_fail_bad l hst D cI cZ cO cJ x a t b ck Ho (sT σ) (sE σ) (sD σ) (sF σ) (sS σ) (sC σ) (sL σ) (sT ρ) (sE ρ) (sD ρ) (sF ρ) (sS ρ) (sC ρ) (sL ρ) Lo Se Ef gp gi am li dl (xs (i + 1)) o g H.size h) (vx_cwSW (rm := rxL_fail) 3 hts gL_law_L_fail rfl rfl rfl (by decide +kernel) ⟨Nat.le_of_ble_eq_true rfl, Nat.le_of_ble_eq_true rfl⟩) (kPreSHW hK hN hX hC (pfP hP) (pfD hD) hS (kfree (pfD hD) hS hA)) rfl rfl hl.1 rfl (lv_room (Nat.le_of_ble_eq_true rfl)) dL_law_508 ⟨by show _ ≤ 653765; omega, by show _ ≤ 7134809; omega⟩) (fun r9 u H locs hr9 hP hD hS => ?_)
  subst hr9
  have hP : va_P D vwCl ((wC cI cZ cO x a t b ck Ho (sT σ) (sE σ) (sD σ) (sF σ) (sS σ) (sC σ) (sL σ) (sT ρ) (sE ρ) (sD ρ) (sF ρ) (sS ρ) (sC ρ) (sL ρ) Lo Se Ef gp gi am li dl ++ [(o, .inl (cJ, 1, .inr (.inl g)))]) ++ wM cI cZ y Lo Se Em gp gi am li dl (rK μ) (rT μ) (rE μ) (rD μ) (rF μ) (rS μ) (rC μ) Hm th) H := hP
  have hD : va_D A ((wC cI cZ cO x a t b ck Ho (sT σ) (sE σ) (sD σ) (sF σ) (sS σ) (sC σ) (sL σ) (sT ρ) (sE ρ) (sD ρ) (sF ρ) (sS ρ) (sC ρ) (sL ρ) Lo Se Ef gp gi am li dl ++ [(o, .inl (cJ, 1, .inr (.inl g)))]) ++ wM cI cZ y Lo Se Em gp gi am li dl (rK μ) (rT μ) (rE μ) (rD μ) (rF μ) (rS μ) (rC μ) Hm th) := hD
  refine lv_istore (lv' := [(5, .int (nI 1)), (0, .ref bs), (1, .ref (x 0)), (2, .ref (y 0)), (3, .ref o), (4, .int (nI i))]) hx hb dL_law_511 hl (by decide) rfl (fun ls hl => ?_)
  refine lv_aload_n hx hb dL_law_513 rfl (lv_at hl 3 rfl) ?_
  refine lv_aload_n hx hb dL_law_514 rfl (lv_at hl 1 rfl) ?_
  refine lv_iload hx hb dL_law_515 (lv_at hl 5 rfl) ?_
  refine lv_iconst (v := nI 1) hx hb dL_law_517 (by decide +kernel) ?_
  refine lv_iadd hx hb dL_law_518 ?_
  refine k_as (nI_add _ _) ?_
  refine k_sld hx hb hsc hbl hbA hS (v := xs (i + 1)) (by omega) hL rfl dL_law_519 ?_
  refine kCallS_i (mc := 0) (ms := 0) (W1 := fun _ : Unit => wM cI cZ y Lo Se Em gp gi am li dl (rK μ) (rT μ) (rE μ) (rD μ) (rF μ) (rS μ) (rC μ) Hm (nI 1)) (fun _ _ h => h) hP hD hS hA (fun _ => rfl) (va_runV (As := [.int (xs (i + 1))]) (rest := []) ⟨hx, hb, hml, hown, hts⟩ (c_X3_fail_bad l D cI cZ cO cJ y Lo Se Em gp gi am li dl (rK μ) (rT μ) (rE μ) (rD μ) (rF μ) (rS μ) (rC μ) Hm th (xs (i + 1)) H.size h) (cwV (rm := rmX3_fail) 1 hts gL_law_X3_fail rfl rfl rfl (by decide +kernel) ⟨Nat.le_of_ble_eq_true rfl, Nat.le_of_ble_eq_true rfl⟩) (kPreVW hK hN (sfP hP) (sfD hD) (va_recv hK (sfP hP) (ci := 3) (q0 := 0) rfl rfl)) rfl rfl hl.1 rfl (lv_room (Nat.le_of_ble_eq_true rfl)) dL_law_520 ⟨by show _ ≤ 653765; omega, by show _ ≤ 7134809; omega⟩) (fun r9 u2 H locs hr9 hP hD hS => ?_)
  subst hr9
  have hP : va_P D vwCl ((wC cI cZ cO x a t b ck Ho (sT σ) (sE σ) (sD σ) (sF σ) (sS σ) (sC σ) (sL σ) (sT ρ) (sE ρ) (sD ρ) (sF ρ) (sS ρ) (sC ρ) (sL ρ) Lo Se Ef gp gi am li dl ++ [(o, .inl (cJ, 1, .inr (.inl g)))]) ++ wM cI cZ y Lo Se Em gp gi am li dl (rK μ) (rT μ) (rE μ) (rD μ) (rF μ) (rS μ) (rC μ) Hm (nI 1)) H := hP
  have hD : va_D A ((wC cI cZ cO x a t b ck Ho (sT σ) (sE σ) (sD σ) (sF σ) (sS σ) (sC σ) (sL σ) (sT ρ) (sE ρ) (sD ρ) (sF ρ) (sS ρ) (sC ρ) (sL ρ) Lo Se Ef gp gi am li dl ++ [(o, .inl (cJ, 1, .inr (.inl g)))]) ++ wM cI cZ y Lo Se Em gp gi am li dl (rK μ) (rT μ) (rE μ) (rD μ) (rF μ) (rS μ) (rC μ) Hm (nI 1)) := hD
  refine lv_istore (lv' := [(6, .int (nI 0)), (5, .int (nI 1)), (0, .ref bs), (1, .ref (x 0)), (2, .ref (y 0)), (3, .ref o), (4, .int (nI i))]) hx hb dL_law_523 hl (by decide) rfl (fun ls hl => ?_)
  refine lv_aload_n hx hb dL_law_525 rfl (lv_at hl 4 rfl) ?_
  refine kCallS_i (mc := 0) (ms := 0) (W1 := fun _ : Unit => wM cI cZ y Lo Se Em gp gi am li dl (rK μ) (rT μ) (rE μ) (rD μ) (rF μ) (rS μ) (rC μ) Hm (nI 1)) (fun _ _ h => h) hP hD hS hA (fun _ => rfl) (va_runV (As := []) (rest := []) ⟨hx, hb, hml, hown, hts⟩ (c_X3_thrown l D cI cZ cO cJ y Lo Se Em gp gi am li dl (rK μ) (rT μ) (rE μ) (rD μ) (rF μ) (rS μ) (rC μ) Hm (nI 1) H.size) (cwV (rm := rmX3_thrown) 0 hts gL_law_X3_thrown rfl rfl rfl (by decide +kernel) ⟨Nat.le_of_ble_eq_true rfl, Nat.le_of_ble_eq_true rfl⟩) (kPreVW hK hN (sfP hP) (sfD hD) (va_recv hK (sfP hP) (ci := 3) (q0 := 0) rfl rfl)) rfl rfl hl.1 rfl (lv_room (Nat.le_of_ble_eq_true rfl)) dL_law_526 ⟨by show _ ≤ 653765; omega, by show _ ≤ 7134809; omega⟩) (fun r9 u3 H locs hr9 hP hD hS => ?_)
  subst hr9
  have hP : va_P D vwCl ((wC cI cZ cO x a t b ck Ho (sT σ) (sE σ) (sD σ) (sF σ) (sS σ) (sC σ) (sL σ) (sT ρ) (sE ρ) (sD ρ) (sF ρ) (sS ρ) (sC ρ) (sL ρ) Lo Se Ef gp gi am li dl ++ [(o, .inl (cJ, 1, .inr (.inl g)))]) ++ wM cI cZ y Lo Se Em gp gi am li dl (rK μ) (rT μ) (rE μ) (rD μ) (rF μ) (rS μ) (rC μ) Hm (nI 1)) H := hP
  have hD : va_D A ((wC cI cZ cO x a t b ck Ho (sT σ) (sE σ) (sD σ) (sF σ) (sS σ) (sC σ) (sL σ) (sT ρ) (sE ρ) (sD ρ) (sF ρ) (sS ρ) (sC ρ) (sL ρ) Lo Se Ef gp gi am li dl ++ [(o, .inl (cJ, 1, .inr (.inl g)))]) ++ wM cI cZ y Lo Se Em gp gi am li dl (rK μ) (rT μ) (rE μ) (rD μ) (rF μ) (rS μ) (rC μ) Hm (nI 1)) := hD
  refine lv_iload hx hb dL_law_529 (lv_at hl 1 rfl) ?_
  refine lv_icmp_eq (tgt := 536) hx hb dL_law_531 (by decide) (fun _ => ?_) (fun c9 => absurd rfl c9)
  refine lv_iload hx hb dL_law_536 (lv_at hl 1 rfl) ?_
  refine lv_if_ne (tgt := 553) hx hb dL_law_538 (by decide) (fun _ => ?_) (fun c9 => absurd c9 (by decide))
  refine lv_goto (tgt := 1234) hx hb dL_law_553 (by decide) ?_
  refine lv_iinc (v := nI (i + 4)) (lv' := [(4, .int (nI (i + 4))), (6, .int (nI 0)), (5, .int (nI 1)), (0, .ref bs), (1, .ref (x 0)), (2, .ref (y 0)), (3, .ref o)]) hx hb dL_law_1234 hl (k := 6) rfl (nI_add _ 4) (by decide) rfl (fun ls hl => ?_)
  refine lv_goto (tgt := 23) hx hb dL_law_1237 (by decide) ?_
  refine W.widen (k := cl + 1) (n := sl + 6) (by omega) (by omega) ?_
  exact kk σ ρ μ ck Ho Hm Lo Se Em Ef gp gi am li dl _ _ hI H locs hP hD hS ls (lv_sub hl [3, 4, 5, 6, 0] rfl)

set_option maxHeartbeats 4000000 in
set_option maxRecDepth 100000 in
theorem lb_repair_ok (f : Nat) (e1 : xs (i + 1) = nI f) (hf : f < 8) (hF : ¬ sF σ f = 0) (h0 : LC p l s m args c D cI cZ cO cJ bs L xs A) (hi : i + 4 ≤ L) (hcl : cl + 1 ≤ 653765) (hsl : sl + 6 ≤ 7134809) (hI : LI σ μ ck Ho Hm Lo Se Em Ef gp gi am dl) (hP : va_P D vwCl (wL cI cZ cO cJ x a t b y o σ ρ μ ck Ho Hm Lo Se Em Ef gp gi am li dl g th) H) (hD : va_D A (wL cI cZ cO cJ x a t b y o σ ρ μ ck Ho Hm Lo Se Em Ef gp gi am li dl g th)) (hS : va_S A s.heap H locs) (hl : lv_has ls 7 [(0, .ref bs), (1, .ref (x 0)), (2, .ref (y 0)), (3, .ref o), (4, .int (nI i))]) (kk : Hd p l e s m args below meth c D cI cZ cO cJ x a t b y o bs A Q (i + 4) (cl + 1) (sl + 6)) : W p l e room_1 s m args below meth c H locs cl sl Q (F0 m 556 ls []) := by
  obtain ⟨hx, hb, hml, hts, hown, hK, hN, hX, hC, hA, hsc, hbl, hbA, hst, hL⟩ := h0
  have hFm : ¬ rF μ f = 0 := by rw [rel0_F hI.1 hf]; exact hF
  refine lv_aload_n hx hb dL_law_556 rfl (lv_at hl 1 rfl) ?_
  refine lv_aload_n hx hb dL_law_557 rfl (lv_at hl 0 rfl) ?_
  refine lv_iload hx hb dL_law_558 (lv_at hl 4 rfl) ?_
  refine lv_iconst (v := nI 1) hx hb dL_law_560 (by decide +kernel) ?_
  refine lv_iadd hx hb dL_law_561 ?_
  refine k_as (nI_add _ _) ?_
  refine k_sld hx hb hsc hbl hbA hS (v := nI f) (by omega) hL e1 dL_law_562 ?_
  refine lv_aload_n hx hb dL_law_563 rfl (lv_at hl 3 rfl) ?_
  refine kCallP_i (mc := 0) (ms := 0) (W1 := fun _ : Unit => wC cI cZ cO x a t b ck Ho (sT σ) (sE σ) (sD σ) (upd (sF σ) f (nI 0)) (sS σ) (sC σ) (sL σ) (sT ρ) (sE ρ) (sD ρ) (sF ρ) (sS ρ) (sC ρ) (sL ρ) Lo Se Ef gp gi am li dl ++ [(o, .inl (cJ, 1, .inr (.inl (vp_updL g 0 ((mCnt (upd (sF σ) f (nI 0)) 8)).toInt64))))]) (fun _ _ h => h) hP hD hS hA (fun _ => rfl) (vx_runSW (As := [.ref (x 0), .int (nI f), .ref o]) (rest := []) ⟨hx, hb, hml, hown, hts⟩ (c_L_repair l D cI cZ cO cJ x a t b ck Ho (sT σ) (sE σ) (sD σ) (sF σ) (sS σ) (sC σ) (sL σ) (sT ρ) (sE ρ) (sD ρ) (sF ρ) (sS ρ) (sC ρ) (sL ρ) Lo Se Ef gp gi am li dl f o g H.size hf hF) (vx_cwSW (rm := rmL_repair) 3 hts gL_law_L_repair rfl rfl rfl (by decide +kernel) ⟨Nat.le_of_ble_eq_true rfl, Nat.le_of_ble_eq_true rfl⟩) (kPreSHW hK hN hX hC (pfP hP) (pfD hD) hS (kfree (pfD hD) hS hA)) rfl rfl hl.1 rfl (lv_room (Nat.le_of_ble_eq_true rfl)) dL_law_564 ⟨by show _ ≤ 653765; omega, by show _ ≤ 7134809; omega⟩) (fun r9 u H locs hr9 hP hD hS => ?_)
  subst hr9
  have hP : va_P D vwCl ((wC cI cZ cO x a t b ck Ho (sT σ) (sE σ) (sD σ) (upd (sF σ) f (nI 0)) (sS σ) (sC σ) (sL σ) (sT ρ) (sE ρ) (sD ρ) (sF ρ) (sS ρ) (sC ρ) (sL ρ) Lo Se Ef gp gi am li dl ++ [(o, .inl (cJ, 1, .inr (.inl (vp_updL g 0 ((mCnt (upd (sF σ) f (nI 0)) 8)).toInt64))))]) ++ wM cI cZ y Lo Se Em gp gi am li dl (rK μ) (rT μ) (rE μ) (rD μ) (rF μ) (rS μ) (rC μ) Hm th) H := hP
  have hD : va_D A ((wC cI cZ cO x a t b ck Ho (sT σ) (sE σ) (sD σ) (upd (sF σ) f (nI 0)) (sS σ) (sC σ) (sL σ) (sT ρ) (sE ρ) (sD ρ) (sF ρ) (sS ρ) (sC ρ) (sL ρ) Lo Se Ef gp gi am li dl ++ [(o, .inl (cJ, 1, .inr (.inl (vp_updL g 0 ((mCnt (upd (sF σ) f (nI 0)) 8)).toInt64))))]) ++ wM cI cZ y Lo Se Em gp gi am li dl (rK μ) (rT μ) (rE μ) (rD μ) (rF μ) (rS μ) (rC μ) Hm th) := hD
  refine lv_istore (lv' := [(5, .int (nI 0)), (0, .ref bs), (1, .ref (x 0)), (2, .ref (y 0)), (3, .ref o), (4, .int (nI i))]) hx hb dL_law_567 hl (by decide) rfl (fun ls hl => ?_)
  refine lv_aload_n hx hb dL_law_569 rfl (lv_at hl 3 rfl) ?_
  refine lv_aload_n hx hb dL_law_570 rfl (lv_at hl 1 rfl) ?_
  refine lv_iload hx hb dL_law_571 (lv_at hl 5 rfl) ?_
  refine lv_iconst (v := nI 1) hx hb dL_law_573 (by decide +kernel) ?_
  refine lv_iadd hx hb dL_law_574 ?_
  refine k_as (nI_add _ _) ?_
  refine k_sld hx hb hsc hbl hbA hS (v := nI f) (by omega) hL e1 dL_law_575 ?_
  refine kCallS_i (mc := 0) (ms := 0) (W1 := fun _ : Unit => wM cI cZ y Lo Se Em gp gi am li dl (rK μ) (rT μ) (rE μ) (rD μ) (upd (rF μ) f (nI 0)) (rS μ) (rC μ) Hm (nI 0)) (fun _ _ h => h) hP hD hS hA (fun _ => rfl) (va_runV (As := [.int (nI f)]) (rest := []) ⟨hx, hb, hml, hown, hts⟩ (c_X3_repair_ok l D cI cZ cO cJ y Lo Se Em gp gi am li dl (rK μ) (rT μ) (rE μ) (rD μ) (rF μ) (rS μ) (rC μ) Hm th f H.size hf hFm) (cwV (rm := rmX3_repair) 1 hts gL_law_X3_repair rfl rfl rfl (by decide +kernel) ⟨Nat.le_of_ble_eq_true rfl, Nat.le_of_ble_eq_true rfl⟩) (kPreVW hK hN (sfP hP) (sfD hD) (va_recv hK (sfP hP) (ci := 3) (q0 := 0) rfl rfl)) rfl rfl hl.1 rfl (lv_room (Nat.le_of_ble_eq_true rfl)) dL_law_576 ⟨by show _ ≤ 653765; omega, by show _ ≤ 7134809; omega⟩) (fun r9 u2 H locs hr9 hP hD hS => ?_)
  subst hr9
  have hP : va_P D vwCl ((wC cI cZ cO x a t b ck Ho (sT σ) (sE σ) (sD σ) (upd (sF σ) f (nI 0)) (sS σ) (sC σ) (sL σ) (sT ρ) (sE ρ) (sD ρ) (sF ρ) (sS ρ) (sC ρ) (sL ρ) Lo Se Ef gp gi am li dl ++ [(o, .inl (cJ, 1, .inr (.inl (vp_updL g 0 ((mCnt (upd (sF σ) f (nI 0)) 8)).toInt64))))]) ++ wM cI cZ y Lo Se Em gp gi am li dl (rK μ) (rT μ) (rE μ) (rD μ) (upd (rF μ) f (nI 0)) (rS μ) (rC μ) Hm (nI 0)) H := hP
  have hD : va_D A ((wC cI cZ cO x a t b ck Ho (sT σ) (sE σ) (sD σ) (upd (sF σ) f (nI 0)) (sS σ) (sC σ) (sL σ) (sT ρ) (sE ρ) (sD ρ) (sF ρ) (sS ρ) (sC ρ) (sL ρ) Lo Se Ef gp gi am li dl ++ [(o, .inl (cJ, 1, .inr (.inl (vp_updL g 0 ((mCnt (upd (sF σ) f (nI 0)) 8)).toInt64))))]) ++ wM cI cZ y Lo Se Em gp gi am li dl (rK μ) (rT μ) (rE μ) (rD μ) (upd (rF μ) f (nI 0)) (rS μ) (rC μ) Hm (nI 0)) := hD
  refine lv_istore (lv' := [(6, .int (mCnt (upd (rF μ) f (nI 0)) 8)), (5, .int (nI 0)), (0, .ref bs), (1, .ref (x 0)), (2, .ref (y 0)), (3, .ref o), (4, .int (nI i))]) hx hb dL_law_579 hl (by decide) rfl (fun ls hl => ?_)
  refine lv_aload_n hx hb dL_law_581 rfl (lv_at hl 4 rfl) ?_
  refine kCallS_i (mc := 0) (ms := 0) (W1 := fun _ : Unit => wM cI cZ y Lo Se Em gp gi am li dl (rK μ) (rT μ) (rE μ) (rD μ) (upd (rF μ) f (nI 0)) (rS μ) (rC μ) Hm (nI 0)) (fun _ _ h => h) hP hD hS hA (fun _ => rfl) (va_runV (As := []) (rest := []) ⟨hx, hb, hml, hown, hts⟩ (c_X3_thrown l D cI cZ cO cJ y Lo Se Em gp gi am li dl (rK μ) (rT μ) (rE μ) (rD μ) (upd (rF μ) f (nI 0)) (rS μ) (rC μ) Hm (nI 0) H.size) (cwV (rm := rmX3_thrown) 0 hts gL_law_X3_thrown rfl rfl rfl (by decide +kernel) ⟨Nat.le_of_ble_eq_true rfl, Nat.le_of_ble_eq_true rfl⟩) (kPreVW hK hN (sfP hP) (sfD hD) (va_recv hK (sfP hP) (ci := 3) (q0 := 0) rfl rfl)) rfl rfl hl.1 rfl (lv_room (Nat.le_of_ble_eq_true rfl)) dL_law_582 ⟨by show _ ≤ 653765; omega, by show _ ≤ 7134809; omega⟩) (fun r9 u3 H locs hr9 hP hD hS => ?_)
  subst hr9
  have hP : va_P D vwCl ((wC cI cZ cO x a t b ck Ho (sT σ) (sE σ) (sD σ) (upd (sF σ) f (nI 0)) (sS σ) (sC σ) (sL σ) (sT ρ) (sE ρ) (sD ρ) (sF ρ) (sS ρ) (sC ρ) (sL ρ) Lo Se Ef gp gi am li dl ++ [(o, .inl (cJ, 1, .inr (.inl (vp_updL g 0 ((mCnt (upd (sF σ) f (nI 0)) 8)).toInt64))))]) ++ wM cI cZ y Lo Se Em gp gi am li dl (rK μ) (rT μ) (rE μ) (rD μ) (upd (rF μ) f (nI 0)) (rS μ) (rC μ) Hm (nI 0)) H := hP
  have hD : va_D A ((wC cI cZ cO x a t b ck Ho (sT σ) (sE σ) (sD σ) (upd (sF σ) f (nI 0)) (sS σ) (sC σ) (sL σ) (sT ρ) (sE ρ) (sD ρ) (sF ρ) (sS ρ) (sC ρ) (sL ρ) Lo Se Ef gp gi am li dl ++ [(o, .inl (cJ, 1, .inr (.inl (vp_updL g 0 ((mCnt (upd (sF σ) f (nI 0)) 8)).toInt64))))]) ++ wM cI cZ y Lo Se Em gp gi am li dl (rK μ) (rT μ) (rE μ) (rD μ) (upd (rF μ) f (nI 0)) (rS μ) (rC μ) Hm (nI 0)) := hD
  refine lv_iload hx hb dL_law_585 (lv_at hl 1 rfl) ?_
  refine lv_icmp_eq (tgt := 592) hx hb dL_law_587 (by decide) (fun _ => ?_) (fun c9 => absurd rfl c9)
  refine lv_iload hx hb dL_law_592 (lv_at hl 1 rfl) ?_
  refine lv_if_ne (tgt := 609) hx hb dL_law_594 (by decide) (fun c9 => absurd rfl c9) (fun _ => ?_)
  refine lv_aload_n hx hb dL_law_597 rfl (lv_at hl 5 rfl) ?_
  refine lv_iconst (v := nI 0) hx hb dL_law_598 (by decide +kernel) ?_
  refine k_laldS hx hb hK 3 rfl hP dL_law_599 ?_
  refine lv_iload hx hb dL_law_600 (lv_at hl 0 rfl) ?_
  refine lv_i2l hx hb dL_law_602 rfl ?_
  refine k_lcmp0 (pk_uLs.trans (congrArg Int32.toInt64 (LI_cF hI))) hx hb dL_law_603 ?_
  refine lv_if_eq (tgt := 609) hx hb dL_law_604 (by decide) (fun _ => ?_) (fun c9 => absurd rfl c9)
  refine lv_goto (tgt := 1234) hx hb dL_law_609 (by decide) ?_
  refine lv_iinc (v := nI (i + 4)) (lv' := [(4, .int (nI (i + 4))), (6, .int (mCnt (upd (rF μ) f (nI 0)) 8)), (5, .int (nI 0)), (0, .ref bs), (1, .ref (x 0)), (2, .ref (y 0)), (3, .ref o)]) hx hb dL_law_1234 hl (k := 6) rfl (nI_add _ 4) (by decide) rfl (fun ls hl => ?_)
  refine lv_goto (tgt := 23) hx hb dL_law_1237 (by decide) ?_
  refine W.widen (k := cl + 1) (n := sl + 6) (by omega) (by omega) ?_
  exact kk (sT σ, sE σ, sD σ, upd (sF σ) f (nI 0), sS σ, sC σ, sL σ) ρ (rK μ, rT μ, rE μ, rD μ, upd (rF μ) f (nI 0), rS μ, rC μ) ck Ho Hm Lo Se Em Ef gp gi am li dl _ _ (LI_repair hI) H locs hP hD hS ls (lv_sub hl [3, 4, 5, 6, 0] rfl)

set_option maxHeartbeats 4000000 in
set_option maxRecDepth 100000 in
theorem lb_repair_two (f : Nat) (e1 : xs (i + 1) = nI f) (hf : f < 8) (hF : sF σ f = 0) (h0 : LC p l s m args c D cI cZ cO cJ bs L xs A) (hi : i + 4 ≤ L) (hcl : cl + 1 ≤ 653765) (hsl : sl + 6 ≤ 7134809) (hI : LI σ μ ck Ho Hm Lo Se Em Ef gp gi am dl) (hP : va_P D vwCl (wL cI cZ cO cJ x a t b y o σ ρ μ ck Ho Hm Lo Se Em Ef gp gi am li dl g th) H) (hD : va_D A (wL cI cZ cO cJ x a t b y o σ ρ μ ck Ho Hm Lo Se Em Ef gp gi am li dl g th)) (hS : va_S A s.heap H locs) (hl : lv_has ls 7 [(0, .ref bs), (1, .ref (x 0)), (2, .ref (y 0)), (3, .ref o), (4, .int (nI i))]) (kk : Hd p l e s m args below meth c D cI cZ cO cJ x a t b y o bs A Q (i + 4) (cl + 1) (sl + 6)) : W p l e room_1 s m args below meth c H locs cl sl Q (F0 m 556 ls []) := by
  obtain ⟨hx, hb, hml, hts, hown, hK, hN, hX, hC, hA, hsc, hbl, hbA, hst, hL⟩ := h0
  have hFm : rF μ f = 0 := by rw [rel0_F hI.1 hf]; exact hF
  refine lv_aload_n hx hb dL_law_556 rfl (lv_at hl 1 rfl) ?_
  refine lv_aload_n hx hb dL_law_557 rfl (lv_at hl 0 rfl) ?_
  refine lv_iload hx hb dL_law_558 (lv_at hl 4 rfl) ?_
  refine lv_iconst (v := nI 1) hx hb dL_law_560 (by decide +kernel) ?_
  refine lv_iadd hx hb dL_law_561 ?_
  refine k_as (nI_add _ _) ?_
  refine k_sld hx hb hsc hbl hbA hS (v := nI f) (by omega) hL e1 dL_law_562 ?_
  refine lv_aload_n hx hb dL_law_563 rfl (lv_at hl 3 rfl) ?_
  refine kCallP_i (mc := 1) (ms := 6) (W1 := fun _ : Unit => wC cI cZ cO x a t b ck Ho (sT σ) (sE σ) (sD σ) (sF σ) (sS σ) (sC σ) (sL σ) (sT ρ) (sE ρ) (sD ρ) (sF ρ) (sS ρ) (sC ρ) (sL ρ) Lo Se Ef gp gi am li dl ++ [(o, .inl (cJ, 1, .inr (.inl g)))]) (fun _ _ h => h) hP hD hS hA (fun _ => rfl) (vx_runSW (As := [.ref (x 0), .int (nI f), .ref o]) (rest := []) ⟨hx, hb, hml, hown, hts⟩ (c_L_repair_two l hst D cI cZ cO cJ x a t b ck Ho (sT σ) (sE σ) (sD σ) (sF σ) (sS σ) (sC σ) (sL σ) (sT ρ) (sE ρ) (sD ρ) (sF ρ) (sS ρ) (sC ρ) (sL ρ) Lo Se Ef gp gi am li dl f o g H.size hf hF) (vx_cwSW (rm := rxL_repair) 3 hts gL_law_L_repair rfl rfl rfl (by decide +kernel) ⟨Nat.le_of_ble_eq_true rfl, Nat.le_of_ble_eq_true rfl⟩) (kPreSHW hK hN hX hC (pfP hP) (pfD hD) hS (kfree (pfD hD) hS hA)) rfl rfl hl.1 rfl (lv_room (Nat.le_of_ble_eq_true rfl)) dL_law_564 ⟨by show _ ≤ 653765; omega, by show _ ≤ 7134809; omega⟩) (fun r9 u H locs hr9 hP hD hS => ?_)
  subst hr9
  have hP : va_P D vwCl ((wC cI cZ cO x a t b ck Ho (sT σ) (sE σ) (sD σ) (sF σ) (sS σ) (sC σ) (sL σ) (sT ρ) (sE ρ) (sD ρ) (sF ρ) (sS ρ) (sC ρ) (sL ρ) Lo Se Ef gp gi am li dl ++ [(o, .inl (cJ, 1, .inr (.inl g)))]) ++ wM cI cZ y Lo Se Em gp gi am li dl (rK μ) (rT μ) (rE μ) (rD μ) (rF μ) (rS μ) (rC μ) Hm th) H := hP
  have hD : va_D A ((wC cI cZ cO x a t b ck Ho (sT σ) (sE σ) (sD σ) (sF σ) (sS σ) (sC σ) (sL σ) (sT ρ) (sE ρ) (sD ρ) (sF ρ) (sS ρ) (sC ρ) (sL ρ) Lo Se Ef gp gi am li dl ++ [(o, .inl (cJ, 1, .inr (.inl g)))]) ++ wM cI cZ y Lo Se Em gp gi am li dl (rK μ) (rT μ) (rE μ) (rD μ) (rF μ) (rS μ) (rC μ) Hm th) := hD
  refine lv_istore (lv' := [(5, .int (nI 2)), (0, .ref bs), (1, .ref (x 0)), (2, .ref (y 0)), (3, .ref o), (4, .int (nI i))]) hx hb dL_law_567 hl (by decide) rfl (fun ls hl => ?_)
  refine lv_aload_n hx hb dL_law_569 rfl (lv_at hl 3 rfl) ?_
  refine lv_aload_n hx hb dL_law_570 rfl (lv_at hl 1 rfl) ?_
  refine lv_iload hx hb dL_law_571 (lv_at hl 5 rfl) ?_
  refine lv_iconst (v := nI 1) hx hb dL_law_573 (by decide +kernel) ?_
  refine lv_iadd hx hb dL_law_574 ?_
  refine k_as (nI_add _ _) ?_
  refine k_sld hx hb hsc hbl hbA hS (v := nI f) (by omega) hL e1 dL_law_575 ?_
  refine kCallS_i (mc := 0) (ms := 0) (W1 := fun _ : Unit => wM cI cZ y Lo Se Em gp gi am li dl (rK μ) (rT μ) (rE μ) (rD μ) (rF μ) (rS μ) (rC μ) Hm (nI 2)) (fun _ _ h => h) hP hD hS hA (fun _ => rfl) (va_runV (As := [.int (nI f)]) (rest := []) ⟨hx, hb, hml, hown, hts⟩ (c_X3_repair_two l D cI cZ cO cJ y Lo Se Em gp gi am li dl (rK μ) (rT μ) (rE μ) (rD μ) (rF μ) (rS μ) (rC μ) Hm th f H.size hf hFm) (cwV (rm := rmX3_repair) 1 hts gL_law_X3_repair rfl rfl rfl (by decide +kernel) ⟨Nat.le_of_ble_eq_true rfl, Nat.le_of_ble_eq_true rfl⟩) (kPreVW hK hN (sfP hP) (sfD hD) (va_recv hK (sfP hP) (ci := 3) (q0 := 0) rfl rfl)) rfl rfl hl.1 rfl (lv_room (Nat.le_of_ble_eq_true rfl)) dL_law_576 ⟨by show _ ≤ 653765; omega, by show _ ≤ 7134809; omega⟩) (fun r9 u2 H locs hr9 hP hD hS => ?_)
  subst hr9
  have hP : va_P D vwCl ((wC cI cZ cO x a t b ck Ho (sT σ) (sE σ) (sD σ) (sF σ) (sS σ) (sC σ) (sL σ) (sT ρ) (sE ρ) (sD ρ) (sF ρ) (sS ρ) (sC ρ) (sL ρ) Lo Se Ef gp gi am li dl ++ [(o, .inl (cJ, 1, .inr (.inl g)))]) ++ wM cI cZ y Lo Se Em gp gi am li dl (rK μ) (rT μ) (rE μ) (rD μ) (rF μ) (rS μ) (rC μ) Hm (nI 2)) H := hP
  have hD : va_D A ((wC cI cZ cO x a t b ck Ho (sT σ) (sE σ) (sD σ) (sF σ) (sS σ) (sC σ) (sL σ) (sT ρ) (sE ρ) (sD ρ) (sF ρ) (sS ρ) (sC ρ) (sL ρ) Lo Se Ef gp gi am li dl ++ [(o, .inl (cJ, 1, .inr (.inl g)))]) ++ wM cI cZ y Lo Se Em gp gi am li dl (rK μ) (rT μ) (rE μ) (rD μ) (rF μ) (rS μ) (rC μ) Hm (nI 2)) := hD
  refine lv_istore (lv' := [(6, .int (nI 0)), (5, .int (nI 2)), (0, .ref bs), (1, .ref (x 0)), (2, .ref (y 0)), (3, .ref o), (4, .int (nI i))]) hx hb dL_law_579 hl (by decide) rfl (fun ls hl => ?_)
  refine lv_aload_n hx hb dL_law_581 rfl (lv_at hl 4 rfl) ?_
  refine kCallS_i (mc := 0) (ms := 0) (W1 := fun _ : Unit => wM cI cZ y Lo Se Em gp gi am li dl (rK μ) (rT μ) (rE μ) (rD μ) (rF μ) (rS μ) (rC μ) Hm (nI 2)) (fun _ _ h => h) hP hD hS hA (fun _ => rfl) (va_runV (As := []) (rest := []) ⟨hx, hb, hml, hown, hts⟩ (c_X3_thrown l D cI cZ cO cJ y Lo Se Em gp gi am li dl (rK μ) (rT μ) (rE μ) (rD μ) (rF μ) (rS μ) (rC μ) Hm (nI 2) H.size) (cwV (rm := rmX3_thrown) 0 hts gL_law_X3_thrown rfl rfl rfl (by decide +kernel) ⟨Nat.le_of_ble_eq_true rfl, Nat.le_of_ble_eq_true rfl⟩) (kPreVW hK hN (sfP hP) (sfD hD) (va_recv hK (sfP hP) (ci := 3) (q0 := 0) rfl rfl)) rfl rfl hl.1 rfl (lv_room (Nat.le_of_ble_eq_true rfl)) dL_law_582 ⟨by show _ ≤ 653765; omega, by show _ ≤ 7134809; omega⟩) (fun r9 u3 H locs hr9 hP hD hS => ?_)
  subst hr9
  have hP : va_P D vwCl ((wC cI cZ cO x a t b ck Ho (sT σ) (sE σ) (sD σ) (sF σ) (sS σ) (sC σ) (sL σ) (sT ρ) (sE ρ) (sD ρ) (sF ρ) (sS ρ) (sC ρ) (sL ρ) Lo Se Ef gp gi am li dl ++ [(o, .inl (cJ, 1, .inr (.inl g)))]) ++ wM cI cZ y Lo Se Em gp gi am li dl (rK μ) (rT μ) (rE μ) (rD μ) (rF μ) (rS μ) (rC μ) Hm (nI 2)) H := hP
  have hD : va_D A ((wC cI cZ cO x a t b ck Ho (sT σ) (sE σ) (sD σ) (sF σ) (sS σ) (sC σ) (sL σ) (sT ρ) (sE ρ) (sD ρ) (sF ρ) (sS ρ) (sC ρ) (sL ρ) Lo Se Ef gp gi am li dl ++ [(o, .inl (cJ, 1, .inr (.inl g)))]) ++ wM cI cZ y Lo Se Em gp gi am li dl (rK μ) (rT μ) (rE μ) (rD μ) (rF μ) (rS μ) (rC μ) Hm (nI 2)) := hD
  refine lv_iload hx hb dL_law_585 (lv_at hl 1 rfl) ?_
  refine lv_icmp_eq (tgt := 592) hx hb dL_law_587 (by decide) (fun _ => ?_) (fun c9 => absurd rfl c9)
  refine lv_iload hx hb dL_law_592 (lv_at hl 1 rfl) ?_
  refine lv_if_ne (tgt := 609) hx hb dL_law_594 (by decide) (fun _ => ?_) (fun c9 => absurd c9 (by decide))
  refine lv_goto (tgt := 1234) hx hb dL_law_609 (by decide) ?_
  refine lv_iinc (v := nI (i + 4)) (lv' := [(4, .int (nI (i + 4))), (6, .int (nI 0)), (5, .int (nI 2)), (0, .ref bs), (1, .ref (x 0)), (2, .ref (y 0)), (3, .ref o)]) hx hb dL_law_1234 hl (k := 6) rfl (nI_add _ 4) (by decide) rfl (fun ls hl => ?_)
  refine lv_goto (tgt := 23) hx hb dL_law_1237 (by decide) ?_
  refine W.widen (k := cl + 1) (n := sl + 6) (by omega) (by omega) ?_
  exact kk σ ρ μ ck Ho Hm Lo Se Em Ef gp gi am li dl _ _ hI H locs hP hD hS ls (lv_sub hl [3, 4, 5, 6, 0] rfl)

set_option maxHeartbeats 4000000 in
set_option maxRecDepth 100000 in
theorem lb_repair_bad (h : ¬ inR (xs (i + 1)) (nI 0) (nI 7)) (h0 : LC p l s m args c D cI cZ cO cJ bs L xs A) (hi : i + 4 ≤ L) (hcl : cl + 1 ≤ 653765) (hsl : sl + 6 ≤ 7134809) (hI : LI σ μ ck Ho Hm Lo Se Em Ef gp gi am dl) (hP : va_P D vwCl (wL cI cZ cO cJ x a t b y o σ ρ μ ck Ho Hm Lo Se Em Ef gp gi am li dl g th) H) (hD : va_D A (wL cI cZ cO cJ x a t b y o σ ρ μ ck Ho Hm Lo Se Em Ef gp gi am li dl g th)) (hS : va_S A s.heap H locs) (hl : lv_has ls 7 [(0, .ref bs), (1, .ref (x 0)), (2, .ref (y 0)), (3, .ref o), (4, .int (nI i))]) (kk : Hd p l e s m args below meth c D cI cZ cO cJ x a t b y o bs A Q (i + 4) (cl + 1) (sl + 6)) : W p l e room_1 s m args below meth c H locs cl sl Q (F0 m 556 ls []) := by
  obtain ⟨hx, hb, hml, hts, hown, hK, hN, hX, hC, hA, hsc, hbl, hbA, hst, hL⟩ := h0
  refine lv_aload_n hx hb dL_law_556 rfl (lv_at hl 1 rfl) ?_
  refine lv_aload_n hx hb dL_law_557 rfl (lv_at hl 0 rfl) ?_
  refine lv_iload hx hb dL_law_558 (lv_at hl 4 rfl) ?_
  refine lv_iconst (v := nI 1) hx hb dL_law_560 (by decide +kernel) ?_
  refine lv_iadd hx hb dL_law_561 ?_
  refine k_as (nI_add _ _) ?_
  refine k_sld hx hb hsc hbl hbA hS (v := xs (i + 1)) (by omega) hL rfl dL_law_562 ?_
  refine lv_aload_n hx hb dL_law_563 rfl (lv_at hl 3 rfl) ?_
  refine kCallP_i (mc := 1) (ms := 6) (W1 := fun _ : Unit => wC cI cZ cO x a t b ck Ho (sT σ) (sE σ) (sD σ) (sF σ) (sS σ) (sC σ) (sL σ) (sT ρ) (sE ρ) (sD ρ) (sF ρ) (sS ρ) (sC ρ) (sL ρ) Lo Se Ef gp gi am li dl ++ [(o, .inl (cJ, 1, .inr (.inl g)))]) (fun _ _ h => h) hP hD hS hA (fun _ => rfl) (vx_runSW (As := [.ref (x 0), .int (xs (i + 1)), .ref o]) (rest := []) ⟨hx, hb, hml, hown, hts⟩ (c_L_repair_bad l hst D cI cZ cO cJ x a t b ck Ho (sT σ) (sE σ) (sD σ) (sF σ) (sS σ) (sC σ) (sL σ) (sT ρ) (sE ρ) (sD ρ) (sF ρ) (sS ρ) (sC ρ) (sL ρ) Lo Se Ef gp gi am li dl (xs (i + 1)) o g H.size h) (vx_cwSW (rm := rxL_repair) 3 hts gL_law_L_repair rfl rfl rfl (by decide +kernel) ⟨Nat.le_of_ble_eq_true rfl, Nat.le_of_ble_eq_true rfl⟩) (kPreSHW hK hN hX hC (pfP hP) (pfD hD) hS (kfree (pfD hD) hS hA)) rfl rfl hl.1 rfl (lv_room (Nat.le_of_ble_eq_true rfl)) dL_law_564 ⟨by show _ ≤ 653765; omega, by show _ ≤ 7134809; omega⟩) (fun r9 u H locs hr9 hP hD hS => ?_)
  subst hr9
  have hP : va_P D vwCl ((wC cI cZ cO x a t b ck Ho (sT σ) (sE σ) (sD σ) (sF σ) (sS σ) (sC σ) (sL σ) (sT ρ) (sE ρ) (sD ρ) (sF ρ) (sS ρ) (sC ρ) (sL ρ) Lo Se Ef gp gi am li dl ++ [(o, .inl (cJ, 1, .inr (.inl g)))]) ++ wM cI cZ y Lo Se Em gp gi am li dl (rK μ) (rT μ) (rE μ) (rD μ) (rF μ) (rS μ) (rC μ) Hm th) H := hP
  have hD : va_D A ((wC cI cZ cO x a t b ck Ho (sT σ) (sE σ) (sD σ) (sF σ) (sS σ) (sC σ) (sL σ) (sT ρ) (sE ρ) (sD ρ) (sF ρ) (sS ρ) (sC ρ) (sL ρ) Lo Se Ef gp gi am li dl ++ [(o, .inl (cJ, 1, .inr (.inl g)))]) ++ wM cI cZ y Lo Se Em gp gi am li dl (rK μ) (rT μ) (rE μ) (rD μ) (rF μ) (rS μ) (rC μ) Hm th) := hD
  refine lv_istore (lv' := [(5, .int (nI 1)), (0, .ref bs), (1, .ref (x 0)), (2, .ref (y 0)), (3, .ref o), (4, .int (nI i))]) hx hb dL_law_567 hl (by decide) rfl (fun ls hl => ?_)
  refine lv_aload_n hx hb dL_law_569 rfl (lv_at hl 3 rfl) ?_
  refine lv_aload_n hx hb dL_law_570 rfl (lv_at hl 1 rfl) ?_
  refine lv_iload hx hb dL_law_571 (lv_at hl 5 rfl) ?_
  refine lv_iconst (v := nI 1) hx hb dL_law_573 (by decide +kernel) ?_
  refine lv_iadd hx hb dL_law_574 ?_
  refine k_as (nI_add _ _) ?_
  refine k_sld hx hb hsc hbl hbA hS (v := xs (i + 1)) (by omega) hL rfl dL_law_575 ?_
  refine kCallS_i (mc := 0) (ms := 0) (W1 := fun _ : Unit => wM cI cZ y Lo Se Em gp gi am li dl (rK μ) (rT μ) (rE μ) (rD μ) (rF μ) (rS μ) (rC μ) Hm (nI 1)) (fun _ _ h => h) hP hD hS hA (fun _ => rfl) (va_runV (As := [.int (xs (i + 1))]) (rest := []) ⟨hx, hb, hml, hown, hts⟩ (c_X3_repair_bad l D cI cZ cO cJ y Lo Se Em gp gi am li dl (rK μ) (rT μ) (rE μ) (rD μ) (rF μ) (rS μ) (rC μ) Hm th (xs (i + 1)) H.size h) (cwV (rm := rmX3_repair) 1 hts gL_law_X3_repair rfl rfl rfl (by decide +kernel) ⟨Nat.le_of_ble_eq_true rfl, Nat.le_of_ble_eq_true rfl⟩) (kPreVW hK hN (sfP hP) (sfD hD) (va_recv hK (sfP hP) (ci := 3) (q0 := 0) rfl rfl)) rfl rfl hl.1 rfl (lv_room (Nat.le_of_ble_eq_true rfl)) dL_law_576 ⟨by show _ ≤ 653765; omega, by show _ ≤ 7134809; omega⟩) (fun r9 u2 H locs hr9 hP hD hS => ?_)
  subst hr9
  have hP : va_P D vwCl ((wC cI cZ cO x a t b ck Ho (sT σ) (sE σ) (sD σ) (sF σ) (sS σ) (sC σ) (sL σ) (sT ρ) (sE ρ) (sD ρ) (sF ρ) (sS ρ) (sC ρ) (sL ρ) Lo Se Ef gp gi am li dl ++ [(o, .inl (cJ, 1, .inr (.inl g)))]) ++ wM cI cZ y Lo Se Em gp gi am li dl (rK μ) (rT μ) (rE μ) (rD μ) (rF μ) (rS μ) (rC μ) Hm (nI 1)) H := hP
  have hD : va_D A ((wC cI cZ cO x a t b ck Ho (sT σ) (sE σ) (sD σ) (sF σ) (sS σ) (sC σ) (sL σ) (sT ρ) (sE ρ) (sD ρ) (sF ρ) (sS ρ) (sC ρ) (sL ρ) Lo Se Ef gp gi am li dl ++ [(o, .inl (cJ, 1, .inr (.inl g)))]) ++ wM cI cZ y Lo Se Em gp gi am li dl (rK μ) (rT μ) (rE μ) (rD μ) (rF μ) (rS μ) (rC μ) Hm (nI 1)) := hD
  refine lv_istore (lv' := [(6, .int (nI 0)), (5, .int (nI 1)), (0, .ref bs), (1, .ref (x 0)), (2, .ref (y 0)), (3, .ref o), (4, .int (nI i))]) hx hb dL_law_579 hl (by decide) rfl (fun ls hl => ?_)
  refine lv_aload_n hx hb dL_law_581 rfl (lv_at hl 4 rfl) ?_
  refine kCallS_i (mc := 0) (ms := 0) (W1 := fun _ : Unit => wM cI cZ y Lo Se Em gp gi am li dl (rK μ) (rT μ) (rE μ) (rD μ) (rF μ) (rS μ) (rC μ) Hm (nI 1)) (fun _ _ h => h) hP hD hS hA (fun _ => rfl) (va_runV (As := []) (rest := []) ⟨hx, hb, hml, hown, hts⟩ (c_X3_thrown l D cI cZ cO cJ y Lo Se Em gp gi am li dl (rK μ) (rT μ) (rE μ) (rD μ) (rF μ) (rS μ) (rC μ) Hm (nI 1) H.size) (cwV (rm := rmX3_thrown) 0 hts gL_law_X3_thrown rfl rfl rfl (by decide +kernel) ⟨Nat.le_of_ble_eq_true rfl, Nat.le_of_ble_eq_true rfl⟩) (kPreVW hK hN (sfP hP) (sfD hD) (va_recv hK (sfP hP) (ci := 3) (q0 := 0) rfl rfl)) rfl rfl hl.1 rfl (lv_room (Nat.le_of_ble_eq_true rfl)) dL_law_582 ⟨by show _ ≤ 653765; omega, by show _ ≤ 7134809; omega⟩) (fun r9 u3 H locs hr9 hP hD hS => ?_)
  subst hr9
  have hP : va_P D vwCl ((wC cI cZ cO x a t b ck Ho (sT σ) (sE σ) (sD σ) (sF σ) (sS σ) (sC σ) (sL σ) (sT ρ) (sE ρ) (sD ρ) (sF ρ) (sS ρ) (sC ρ) (sL ρ) Lo Se Ef gp gi am li dl ++ [(o, .inl (cJ, 1, .inr (.inl g)))]) ++ wM cI cZ y Lo Se Em gp gi am li dl (rK μ) (rT μ) (rE μ) (rD μ) (rF μ) (rS μ) (rC μ) Hm (nI 1)) H := hP
  have hD : va_D A ((wC cI cZ cO x a t b ck Ho (sT σ) (sE σ) (sD σ) (sF σ) (sS σ) (sC σ) (sL σ) (sT ρ) (sE ρ) (sD ρ) (sF ρ) (sS ρ) (sC ρ) (sL ρ) Lo Se Ef gp gi am li dl ++ [(o, .inl (cJ, 1, .inr (.inl g)))]) ++ wM cI cZ y Lo Se Em gp gi am li dl (rK μ) (rT μ) (rE μ) (rD μ) (rF μ) (rS μ) (rC μ) Hm (nI 1)) := hD
  refine lv_iload hx hb dL_law_585 (lv_at hl 1 rfl) ?_
  refine lv_icmp_eq (tgt := 592) hx hb dL_law_587 (by decide) (fun _ => ?_) (fun c9 => absurd rfl c9)
  refine lv_iload hx hb dL_law_592 (lv_at hl 1 rfl) ?_
  refine lv_if_ne (tgt := 609) hx hb dL_law_594 (by decide) (fun _ => ?_) (fun c9 => absurd c9 (by decide))
  refine lv_goto (tgt := 1234) hx hb dL_law_609 (by decide) ?_
  refine lv_iinc (v := nI (i + 4)) (lv' := [(4, .int (nI (i + 4))), (6, .int (nI 0)), (5, .int (nI 1)), (0, .ref bs), (1, .ref (x 0)), (2, .ref (y 0)), (3, .ref o)]) hx hb dL_law_1234 hl (k := 6) rfl (nI_add _ 4) (by decide) rfl (fun ls hl => ?_)
  refine lv_goto (tgt := 23) hx hb dL_law_1237 (by decide) ?_
  refine W.widen (k := cl + 1) (n := sl + 6) (by omega) (by omega) ?_
  exact kk σ ρ μ ck Ho Hm Lo Se Em Ef gp gi am li dl _ _ hI H locs hP hD hS ls (lv_sub hl [3, 4, 5, 6, 0] rfl)

set_option maxHeartbeats 4000000 in
set_option maxRecDepth 100000 in
theorem lb_command_ok (f : Nat) (e1 : xs (i + 1) = nI f) (hf : f < 8) (hc0 : 0 < rK μ 0) (h0 : LC p l s m args c D cI cZ cO cJ bs L xs A) (hi : i + 4 ≤ L) (hcl : cl + 1 ≤ 653765) (hsl : sl + 6 ≤ 7134809) (hI : LI σ μ ck Ho Hm Lo Se Em Ef gp gi am dl) (hP : va_P D vwCl (wL cI cZ cO cJ x a t b y o σ ρ μ ck Ho Hm Lo Se Em Ef gp gi am li dl g th) H) (hD : va_D A (wL cI cZ cO cJ x a t b y o σ ρ μ ck Ho Hm Lo Se Em Ef gp gi am li dl g th)) (hS : va_S A s.heap H locs) (hl : lv_has ls 7 [(0, .ref bs), (1, .ref (x 0)), (2, .ref (y 0)), (3, .ref o), (4, .int (nI i))]) (kk : Hd p l e s m args below meth c D cI cZ cO cJ x a t b y o bs A Q (i + 4) (cl + 1) (sl + 6)) : W p l e room_1 s m args below meth c H locs cl sl Q (F0 m 612 ls []) := by
  obtain ⟨hx, hb, hml, hts, hown, hK, hN, hX, hC, hA, hsc, hbl, hbA, hst, hL⟩ := h0
  refine lv_aload_n hx hb dL_law_612 rfl (lv_at hl 1 rfl) ?_
  refine lv_aload_n hx hb dL_law_613 rfl (lv_at hl 0 rfl) ?_
  refine lv_iload hx hb dL_law_614 (lv_at hl 4 rfl) ?_
  refine lv_iconst (v := nI 1) hx hb dL_law_616 (by decide +kernel) ?_
  refine lv_iadd hx hb dL_law_617 ?_
  refine k_as (nI_add _ _) ?_
  refine k_sld hx hb hsc hbl hbA hS (v := nI f) (by omega) hL e1 dL_law_618 ?_
  refine lv_aload_n hx hb dL_law_619 rfl (lv_at hl 3 rfl) ?_
  refine kCallP_i (mc := 0) (ms := 0) (W1 := fun _ : Unit => wC cI cZ cO x a t b ck Ho (sT σ) (sE σ) (sD σ) (sF σ) (sS σ) (sC σ) (sL σ) (sT ρ) (sE ρ) (sD ρ) (sF ρ) (sS ρ) (sC ρ) (sL ρ) Lo Se Ef gp gi am li dl ++ [(o, .inl (cJ, 1, .inr (.inl (vp_updL g 0 (((sC σ) (sL σ) f)).toInt64))))]) (fun _ _ h => h) hP hD hS hA (fun _ => rfl) (vx_runSW (As := [.ref (x 0), .int (nI f), .ref o]) (rest := []) ⟨hx, hb, hml, hown, hts⟩ (c_L_command l D cI cZ cO cJ x a t b ck Ho (sT σ) (sE σ) (sD σ) (sF σ) (sS σ) (sC σ) (sL σ) (sT ρ) (sE ρ) (sD ρ) (sF ρ) (sS ρ) (sC ρ) (sL ρ) Lo Se Ef gp gi am li dl f o g H.size hf (LI_la hI)) (vx_cwSW (rm := rmL_command) 3 hts gL_law_L_command rfl rfl rfl (by decide +kernel) ⟨Nat.le_of_ble_eq_true rfl, Nat.le_of_ble_eq_true rfl⟩) (kPreSHW hK hN hX hC (pfP hP) (pfD hD) hS (kfree (pfD hD) hS hA)) rfl rfl hl.1 rfl (lv_room (Nat.le_of_ble_eq_true rfl)) dL_law_620 ⟨by show _ ≤ 653765; omega, by show _ ≤ 7134809; omega⟩) (fun r9 u H locs hr9 hP hD hS => ?_)
  subst hr9
  have hP : va_P D vwCl ((wC cI cZ cO x a t b ck Ho (sT σ) (sE σ) (sD σ) (sF σ) (sS σ) (sC σ) (sL σ) (sT ρ) (sE ρ) (sD ρ) (sF ρ) (sS ρ) (sC ρ) (sL ρ) Lo Se Ef gp gi am li dl ++ [(o, .inl (cJ, 1, .inr (.inl (vp_updL g 0 (((sC σ) (sL σ) f)).toInt64))))]) ++ wM cI cZ y Lo Se Em gp gi am li dl (rK μ) (rT μ) (rE μ) (rD μ) (rF μ) (rS μ) (rC μ) Hm th) H := hP
  have hD : va_D A ((wC cI cZ cO x a t b ck Ho (sT σ) (sE σ) (sD σ) (sF σ) (sS σ) (sC σ) (sL σ) (sT ρ) (sE ρ) (sD ρ) (sF ρ) (sS ρ) (sC ρ) (sL ρ) Lo Se Ef gp gi am li dl ++ [(o, .inl (cJ, 1, .inr (.inl (vp_updL g 0 (((sC σ) (sL σ) f)).toInt64))))]) ++ wM cI cZ y Lo Se Em gp gi am li dl (rK μ) (rT μ) (rE μ) (rD μ) (rF μ) (rS μ) (rC μ) Hm th) := hD
  refine lv_istore (lv' := [(5, .int (nI 0)), (0, .ref bs), (1, .ref (x 0)), (2, .ref (y 0)), (3, .ref o), (4, .int (nI i))]) hx hb dL_law_623 hl (by decide) rfl (fun ls hl => ?_)
  refine lv_aload_n hx hb dL_law_625 rfl (lv_at hl 3 rfl) ?_
  refine lv_aload_n hx hb dL_law_626 rfl (lv_at hl 1 rfl) ?_
  refine lv_iload hx hb dL_law_627 (lv_at hl 5 rfl) ?_
  refine lv_iconst (v := nI 1) hx hb dL_law_629 (by decide +kernel) ?_
  refine lv_iadd hx hb dL_law_630 ?_
  refine k_as (nI_add _ _) ?_
  refine k_sld hx hb hsc hbl hbA hS (v := nI f) (by omega) hL e1 dL_law_631 ?_
  refine kCallS_i (mc := 0) (ms := 0) (W1 := fun _ : Unit => wM cI cZ y Lo Se Em gp gi am li dl (rK μ) (rT μ) (rE μ) (rD μ) (rF μ) (rS μ) (rC μ) Hm (nI 0)) (fun _ _ h => h) hP hD hS hA (fun _ => rfl) (va_runV (As := [.int (nI f)]) (rest := []) ⟨hx, hb, hml, hown, hts⟩ (c_X3_command_ok l D cI cZ cO cJ y Lo Se Em gp gi am li dl (rK μ) (rT μ) (rE μ) (rD μ) (rF μ) (rS μ) (rC μ) Hm th f H.size hf hc0 (by rw [hI.2.2.1]; have := hI.2.2.2.1; omega)) (cwV (rm := rmX3_command) 1 hts gL_law_X3_command rfl rfl rfl (by decide +kernel) ⟨Nat.le_of_ble_eq_true rfl, Nat.le_of_ble_eq_true rfl⟩) (kPreVW hK hN (sfP hP) (sfD hD) (va_recv hK (sfP hP) (ci := 3) (q0 := 0) rfl rfl)) rfl rfl hl.1 rfl (lv_room (Nat.le_of_ble_eq_true rfl)) dL_law_632 ⟨by show _ ≤ 653765; omega, by show _ ≤ 7134809; omega⟩) (fun r9 u2 H locs hr9 hP hD hS => ?_)
  subst hr9
  have hP : va_P D vwCl ((wC cI cZ cO x a t b ck Ho (sT σ) (sE σ) (sD σ) (sF σ) (sS σ) (sC σ) (sL σ) (sT ρ) (sE ρ) (sD ρ) (sF ρ) (sS ρ) (sC ρ) (sL ρ) Lo Se Ef gp gi am li dl ++ [(o, .inl (cJ, 1, .inr (.inl (vp_updL g 0 (((sC σ) (sL σ) f)).toInt64))))]) ++ wM cI cZ y Lo Se Em gp gi am li dl (rK μ) (rT μ) (rE μ) (rD μ) (rF μ) (rS μ) (rC μ) Hm (nI 0)) H := hP
  have hD : va_D A ((wC cI cZ cO x a t b ck Ho (sT σ) (sE σ) (sD σ) (sF σ) (sS σ) (sC σ) (sL σ) (sT ρ) (sE ρ) (sD ρ) (sF ρ) (sS ρ) (sC ρ) (sL ρ) Lo Se Ef gp gi am li dl ++ [(o, .inl (cJ, 1, .inr (.inl (vp_updL g 0 (((sC σ) (sL σ) f)).toInt64))))]) ++ wM cI cZ y Lo Se Em gp gi am li dl (rK μ) (rT μ) (rE μ) (rD μ) (rF μ) (rS μ) (rC μ) Hm (nI 0)) := hD
  refine lv_istore (lv' := [(6, .int ((rC μ) (9 * (8 * 0 + f) + ((rK μ) 0 - 1) % 9))), (5, .int (nI 0)), (0, .ref bs), (1, .ref (x 0)), (2, .ref (y 0)), (3, .ref o), (4, .int (nI i))]) hx hb dL_law_635 hl (by decide) rfl (fun ls hl => ?_)
  refine lv_aload_n hx hb dL_law_637 rfl (lv_at hl 4 rfl) ?_
  refine kCallS_i (mc := 0) (ms := 0) (W1 := fun _ : Unit => wM cI cZ y Lo Se Em gp gi am li dl (rK μ) (rT μ) (rE μ) (rD μ) (rF μ) (rS μ) (rC μ) Hm (nI 0)) (fun _ _ h => h) hP hD hS hA (fun _ => rfl) (va_runV (As := []) (rest := []) ⟨hx, hb, hml, hown, hts⟩ (c_X3_thrown l D cI cZ cO cJ y Lo Se Em gp gi am li dl (rK μ) (rT μ) (rE μ) (rD μ) (rF μ) (rS μ) (rC μ) Hm (nI 0) H.size) (cwV (rm := rmX3_thrown) 0 hts gL_law_X3_thrown rfl rfl rfl (by decide +kernel) ⟨Nat.le_of_ble_eq_true rfl, Nat.le_of_ble_eq_true rfl⟩) (kPreVW hK hN (sfP hP) (sfD hD) (va_recv hK (sfP hP) (ci := 3) (q0 := 0) rfl rfl)) rfl rfl hl.1 rfl (lv_room (Nat.le_of_ble_eq_true rfl)) dL_law_638 ⟨by show _ ≤ 653765; omega, by show _ ≤ 7134809; omega⟩) (fun r9 u3 H locs hr9 hP hD hS => ?_)
  subst hr9
  have hP : va_P D vwCl ((wC cI cZ cO x a t b ck Ho (sT σ) (sE σ) (sD σ) (sF σ) (sS σ) (sC σ) (sL σ) (sT ρ) (sE ρ) (sD ρ) (sF ρ) (sS ρ) (sC ρ) (sL ρ) Lo Se Ef gp gi am li dl ++ [(o, .inl (cJ, 1, .inr (.inl (vp_updL g 0 (((sC σ) (sL σ) f)).toInt64))))]) ++ wM cI cZ y Lo Se Em gp gi am li dl (rK μ) (rT μ) (rE μ) (rD μ) (rF μ) (rS μ) (rC μ) Hm (nI 0)) H := hP
  have hD : va_D A ((wC cI cZ cO x a t b ck Ho (sT σ) (sE σ) (sD σ) (sF σ) (sS σ) (sC σ) (sL σ) (sT ρ) (sE ρ) (sD ρ) (sF ρ) (sS ρ) (sC ρ) (sL ρ) Lo Se Ef gp gi am li dl ++ [(o, .inl (cJ, 1, .inr (.inl (vp_updL g 0 (((sC σ) (sL σ) f)).toInt64))))]) ++ wM cI cZ y Lo Se Em gp gi am li dl (rK μ) (rT μ) (rE μ) (rD μ) (rF μ) (rS μ) (rC μ) Hm (nI 0)) := hD
  refine lv_iload hx hb dL_law_641 (lv_at hl 1 rfl) ?_
  refine lv_icmp_eq (tgt := 648) hx hb dL_law_643 (by decide) (fun _ => ?_) (fun c9 => absurd rfl c9)
  refine lv_iload hx hb dL_law_648 (lv_at hl 1 rfl) ?_
  refine lv_if_ne (tgt := 665) hx hb dL_law_650 (by decide) (fun c9 => absurd rfl c9) (fun _ => ?_)
  refine lv_aload_n hx hb dL_law_653 rfl (lv_at hl 5 rfl) ?_
  refine lv_iconst (v := nI 0) hx hb dL_law_654 (by decide +kernel) ?_
  refine k_laldS hx hb hK 3 rfl hP dL_law_655 ?_
  refine lv_iload hx hb dL_law_656 (lv_at hl 0 rfl) ?_
  refine lv_i2l hx hb dL_law_658 rfl ?_
  refine k_lcmp0 (pk_uLs.trans (congrArg Int32.toInt64 (LI_cmd hf hI hc0))) hx hb dL_law_659 ?_
  refine lv_if_eq (tgt := 665) hx hb dL_law_660 (by decide) (fun _ => ?_) (fun c9 => absurd rfl c9)
  refine lv_goto (tgt := 1234) hx hb dL_law_665 (by decide) ?_
  refine lv_iinc (v := nI (i + 4)) (lv' := [(4, .int (nI (i + 4))), (6, .int ((rC μ) (9 * (8 * 0 + f) + ((rK μ) 0 - 1) % 9))), (5, .int (nI 0)), (0, .ref bs), (1, .ref (x 0)), (2, .ref (y 0)), (3, .ref o)]) hx hb dL_law_1234 hl (k := 6) rfl (nI_add _ 4) (by decide) rfl (fun ls hl => ?_)
  refine lv_goto (tgt := 23) hx hb dL_law_1237 (by decide) ?_
  refine W.widen (k := cl + 1) (n := sl + 6) (by omega) (by omega) ?_
  exact kk σ ρ μ ck Ho Hm Lo Se Em Ef gp gi am li dl _ _ hI H locs hP hD hS ls (lv_sub hl [3, 4, 5, 6, 0] rfl)

set_option maxHeartbeats 4000000 in
set_option maxRecDepth 100000 in
theorem lb_command_ok0 (f : Nat) (e1 : xs (i + 1) = nI f) (hf : f < 8) (hc0 : rK μ 0 = 0) (h0 : LC p l s m args c D cI cZ cO cJ bs L xs A) (hi : i + 4 ≤ L) (hcl : cl + 1 ≤ 653765) (hsl : sl + 6 ≤ 7134809) (hI : LI σ μ ck Ho Hm Lo Se Em Ef gp gi am dl) (hP : va_P D vwCl (wL cI cZ cO cJ x a t b y o σ ρ μ ck Ho Hm Lo Se Em Ef gp gi am li dl g th) H) (hD : va_D A (wL cI cZ cO cJ x a t b y o σ ρ μ ck Ho Hm Lo Se Em Ef gp gi am li dl g th)) (hS : va_S A s.heap H locs) (hl : lv_has ls 7 [(0, .ref bs), (1, .ref (x 0)), (2, .ref (y 0)), (3, .ref o), (4, .int (nI i))]) (kk : Hd p l e s m args below meth c D cI cZ cO cJ x a t b y o bs A Q (i + 4) (cl + 1) (sl + 6)) : W p l e room_1 s m args below meth c H locs cl sl Q (F0 m 612 ls []) := by
  obtain ⟨hx, hb, hml, hts, hown, hK, hN, hX, hC, hA, hsc, hbl, hbA, hst, hL⟩ := h0
  refine lv_aload_n hx hb dL_law_612 rfl (lv_at hl 1 rfl) ?_
  refine lv_aload_n hx hb dL_law_613 rfl (lv_at hl 0 rfl) ?_
  refine lv_iload hx hb dL_law_614 (lv_at hl 4 rfl) ?_
  refine lv_iconst (v := nI 1) hx hb dL_law_616 (by decide +kernel) ?_
  refine lv_iadd hx hb dL_law_617 ?_
  refine k_as (nI_add _ _) ?_
  refine k_sld hx hb hsc hbl hbA hS (v := nI f) (by omega) hL e1 dL_law_618 ?_
  refine lv_aload_n hx hb dL_law_619 rfl (lv_at hl 3 rfl) ?_
  refine kCallP_i (mc := 0) (ms := 0) (W1 := fun _ : Unit => wC cI cZ cO x a t b ck Ho (sT σ) (sE σ) (sD σ) (sF σ) (sS σ) (sC σ) (sL σ) (sT ρ) (sE ρ) (sD ρ) (sF ρ) (sS ρ) (sC ρ) (sL ρ) Lo Se Ef gp gi am li dl ++ [(o, .inl (cJ, 1, .inr (.inl (vp_updL g 0 (((sC σ) (sL σ) f)).toInt64))))]) (fun _ _ h => h) hP hD hS hA (fun _ => rfl) (vx_runSW (As := [.ref (x 0), .int (nI f), .ref o]) (rest := []) ⟨hx, hb, hml, hown, hts⟩ (c_L_command l D cI cZ cO cJ x a t b ck Ho (sT σ) (sE σ) (sD σ) (sF σ) (sS σ) (sC σ) (sL σ) (sT ρ) (sE ρ) (sD ρ) (sF ρ) (sS ρ) (sC ρ) (sL ρ) Lo Se Ef gp gi am li dl f o g H.size hf (LI_la hI)) (vx_cwSW (rm := rmL_command) 3 hts gL_law_L_command rfl rfl rfl (by decide +kernel) ⟨Nat.le_of_ble_eq_true rfl, Nat.le_of_ble_eq_true rfl⟩) (kPreSHW hK hN hX hC (pfP hP) (pfD hD) hS (kfree (pfD hD) hS hA)) rfl rfl hl.1 rfl (lv_room (Nat.le_of_ble_eq_true rfl)) dL_law_620 ⟨by show _ ≤ 653765; omega, by show _ ≤ 7134809; omega⟩) (fun r9 u H locs hr9 hP hD hS => ?_)
  subst hr9
  have hP : va_P D vwCl ((wC cI cZ cO x a t b ck Ho (sT σ) (sE σ) (sD σ) (sF σ) (sS σ) (sC σ) (sL σ) (sT ρ) (sE ρ) (sD ρ) (sF ρ) (sS ρ) (sC ρ) (sL ρ) Lo Se Ef gp gi am li dl ++ [(o, .inl (cJ, 1, .inr (.inl (vp_updL g 0 (((sC σ) (sL σ) f)).toInt64))))]) ++ wM cI cZ y Lo Se Em gp gi am li dl (rK μ) (rT μ) (rE μ) (rD μ) (rF μ) (rS μ) (rC μ) Hm th) H := hP
  have hD : va_D A ((wC cI cZ cO x a t b ck Ho (sT σ) (sE σ) (sD σ) (sF σ) (sS σ) (sC σ) (sL σ) (sT ρ) (sE ρ) (sD ρ) (sF ρ) (sS ρ) (sC ρ) (sL ρ) Lo Se Ef gp gi am li dl ++ [(o, .inl (cJ, 1, .inr (.inl (vp_updL g 0 (((sC σ) (sL σ) f)).toInt64))))]) ++ wM cI cZ y Lo Se Em gp gi am li dl (rK μ) (rT μ) (rE μ) (rD μ) (rF μ) (rS μ) (rC μ) Hm th) := hD
  refine lv_istore (lv' := [(5, .int (nI 0)), (0, .ref bs), (1, .ref (x 0)), (2, .ref (y 0)), (3, .ref o), (4, .int (nI i))]) hx hb dL_law_623 hl (by decide) rfl (fun ls hl => ?_)
  refine lv_aload_n hx hb dL_law_625 rfl (lv_at hl 3 rfl) ?_
  refine lv_aload_n hx hb dL_law_626 rfl (lv_at hl 1 rfl) ?_
  refine lv_iload hx hb dL_law_627 (lv_at hl 5 rfl) ?_
  refine lv_iconst (v := nI 1) hx hb dL_law_629 (by decide +kernel) ?_
  refine lv_iadd hx hb dL_law_630 ?_
  refine k_as (nI_add _ _) ?_
  refine k_sld hx hb hsc hbl hbA hS (v := nI f) (by omega) hL e1 dL_law_631 ?_
  refine kCallS_i (mc := 0) (ms := 0) (W1 := fun _ : Unit => wM cI cZ y Lo Se Em gp gi am li dl (rK μ) (rT μ) (rE μ) (rD μ) (rF μ) (rS μ) (rC μ) Hm (nI 0)) (fun _ _ h => h) hP hD hS hA (fun _ => rfl) (va_runV (As := [.int (nI f)]) (rest := []) ⟨hx, hb, hml, hown, hts⟩ (c_X3_command_ok0 l D cI cZ cO cJ y Lo Se Em gp gi am li dl (rK μ) (rT μ) (rE μ) (rD μ) (rF μ) (rS μ) (rC μ) Hm th f H.size hf hc0) (cwV (rm := rmX3_command) 1 hts gL_law_X3_command rfl rfl rfl (by decide +kernel) ⟨Nat.le_of_ble_eq_true rfl, Nat.le_of_ble_eq_true rfl⟩) (kPreVW hK hN (sfP hP) (sfD hD) (va_recv hK (sfP hP) (ci := 3) (q0 := 0) rfl rfl)) rfl rfl hl.1 rfl (lv_room (Nat.le_of_ble_eq_true rfl)) dL_law_632 ⟨by show _ ≤ 653765; omega, by show _ ≤ 7134809; omega⟩) (fun r9 u2 H locs hr9 hP hD hS => ?_)
  subst hr9
  have hP : va_P D vwCl ((wC cI cZ cO x a t b ck Ho (sT σ) (sE σ) (sD σ) (sF σ) (sS σ) (sC σ) (sL σ) (sT ρ) (sE ρ) (sD ρ) (sF ρ) (sS ρ) (sC ρ) (sL ρ) Lo Se Ef gp gi am li dl ++ [(o, .inl (cJ, 1, .inr (.inl (vp_updL g 0 (((sC σ) (sL σ) f)).toInt64))))]) ++ wM cI cZ y Lo Se Em gp gi am li dl (rK μ) (rT μ) (rE μ) (rD μ) (rF μ) (rS μ) (rC μ) Hm (nI 0)) H := hP
  have hD : va_D A ((wC cI cZ cO x a t b ck Ho (sT σ) (sE σ) (sD σ) (sF σ) (sS σ) (sC σ) (sL σ) (sT ρ) (sE ρ) (sD ρ) (sF ρ) (sS ρ) (sC ρ) (sL ρ) Lo Se Ef gp gi am li dl ++ [(o, .inl (cJ, 1, .inr (.inl (vp_updL g 0 (((sC σ) (sL σ) f)).toInt64))))]) ++ wM cI cZ y Lo Se Em gp gi am li dl (rK μ) (rT μ) (rE μ) (rD μ) (rF μ) (rS μ) (rC μ) Hm (nI 0)) := hD
  refine lv_istore (lv' := [(6, .int (nI 0)), (5, .int (nI 0)), (0, .ref bs), (1, .ref (x 0)), (2, .ref (y 0)), (3, .ref o), (4, .int (nI i))]) hx hb dL_law_635 hl (by decide) rfl (fun ls hl => ?_)
  refine lv_aload_n hx hb dL_law_637 rfl (lv_at hl 4 rfl) ?_
  refine kCallS_i (mc := 0) (ms := 0) (W1 := fun _ : Unit => wM cI cZ y Lo Se Em gp gi am li dl (rK μ) (rT μ) (rE μ) (rD μ) (rF μ) (rS μ) (rC μ) Hm (nI 0)) (fun _ _ h => h) hP hD hS hA (fun _ => rfl) (va_runV (As := []) (rest := []) ⟨hx, hb, hml, hown, hts⟩ (c_X3_thrown l D cI cZ cO cJ y Lo Se Em gp gi am li dl (rK μ) (rT μ) (rE μ) (rD μ) (rF μ) (rS μ) (rC μ) Hm (nI 0) H.size) (cwV (rm := rmX3_thrown) 0 hts gL_law_X3_thrown rfl rfl rfl (by decide +kernel) ⟨Nat.le_of_ble_eq_true rfl, Nat.le_of_ble_eq_true rfl⟩) (kPreVW hK hN (sfP hP) (sfD hD) (va_recv hK (sfP hP) (ci := 3) (q0 := 0) rfl rfl)) rfl rfl hl.1 rfl (lv_room (Nat.le_of_ble_eq_true rfl)) dL_law_638 ⟨by show _ ≤ 653765; omega, by show _ ≤ 7134809; omega⟩) (fun r9 u3 H locs hr9 hP hD hS => ?_)
  subst hr9
  have hP : va_P D vwCl ((wC cI cZ cO x a t b ck Ho (sT σ) (sE σ) (sD σ) (sF σ) (sS σ) (sC σ) (sL σ) (sT ρ) (sE ρ) (sD ρ) (sF ρ) (sS ρ) (sC ρ) (sL ρ) Lo Se Ef gp gi am li dl ++ [(o, .inl (cJ, 1, .inr (.inl (vp_updL g 0 (((sC σ) (sL σ) f)).toInt64))))]) ++ wM cI cZ y Lo Se Em gp gi am li dl (rK μ) (rT μ) (rE μ) (rD μ) (rF μ) (rS μ) (rC μ) Hm (nI 0)) H := hP
  have hD : va_D A ((wC cI cZ cO x a t b ck Ho (sT σ) (sE σ) (sD σ) (sF σ) (sS σ) (sC σ) (sL σ) (sT ρ) (sE ρ) (sD ρ) (sF ρ) (sS ρ) (sC ρ) (sL ρ) Lo Se Ef gp gi am li dl ++ [(o, .inl (cJ, 1, .inr (.inl (vp_updL g 0 (((sC σ) (sL σ) f)).toInt64))))]) ++ wM cI cZ y Lo Se Em gp gi am li dl (rK μ) (rT μ) (rE μ) (rD μ) (rF μ) (rS μ) (rC μ) Hm (nI 0)) := hD
  refine lv_iload hx hb dL_law_641 (lv_at hl 1 rfl) ?_
  refine lv_icmp_eq (tgt := 648) hx hb dL_law_643 (by decide) (fun _ => ?_) (fun c9 => absurd rfl c9)
  refine lv_iload hx hb dL_law_648 (lv_at hl 1 rfl) ?_
  refine lv_if_ne (tgt := 665) hx hb dL_law_650 (by decide) (fun c9 => absurd rfl c9) (fun _ => ?_)
  refine lv_aload_n hx hb dL_law_653 rfl (lv_at hl 5 rfl) ?_
  refine lv_iconst (v := nI 0) hx hb dL_law_654 (by decide +kernel) ?_
  refine k_laldS hx hb hK 3 rfl hP dL_law_655 ?_
  refine lv_iload hx hb dL_law_656 (lv_at hl 0 rfl) ?_
  refine lv_i2l hx hb dL_law_658 rfl ?_
  refine k_lcmp0 (pk_uLs.trans (congrArg Int32.toInt64 (LI_cmd0 hf hI hc0))) hx hb dL_law_659 ?_
  refine lv_if_eq (tgt := 665) hx hb dL_law_660 (by decide) (fun _ => ?_) (fun c9 => absurd rfl c9)
  refine lv_goto (tgt := 1234) hx hb dL_law_665 (by decide) ?_
  refine lv_iinc (v := nI (i + 4)) (lv' := [(4, .int (nI (i + 4))), (6, .int (nI 0)), (5, .int (nI 0)), (0, .ref bs), (1, .ref (x 0)), (2, .ref (y 0)), (3, .ref o)]) hx hb dL_law_1234 hl (k := 6) rfl (nI_add _ 4) (by decide) rfl (fun ls hl => ?_)
  refine lv_goto (tgt := 23) hx hb dL_law_1237 (by decide) ?_
  refine W.widen (k := cl + 1) (n := sl + 6) (by omega) (by omega) ?_
  exact kk σ ρ μ ck Ho Hm Lo Se Em Ef gp gi am li dl _ _ hI H locs hP hD hS ls (lv_sub hl [3, 4, 5, 6, 0] rfl)

set_option maxHeartbeats 4000000 in
set_option maxRecDepth 100000 in
theorem lb_command_bad (h : ¬ inR (xs (i + 1)) (nI 0) (nI 7)) (h0 : LC p l s m args c D cI cZ cO cJ bs L xs A) (hi : i + 4 ≤ L) (hcl : cl + 1 ≤ 653765) (hsl : sl + 6 ≤ 7134809) (hI : LI σ μ ck Ho Hm Lo Se Em Ef gp gi am dl) (hP : va_P D vwCl (wL cI cZ cO cJ x a t b y o σ ρ μ ck Ho Hm Lo Se Em Ef gp gi am li dl g th) H) (hD : va_D A (wL cI cZ cO cJ x a t b y o σ ρ μ ck Ho Hm Lo Se Em Ef gp gi am li dl g th)) (hS : va_S A s.heap H locs) (hl : lv_has ls 7 [(0, .ref bs), (1, .ref (x 0)), (2, .ref (y 0)), (3, .ref o), (4, .int (nI i))]) (kk : Hd p l e s m args below meth c D cI cZ cO cJ x a t b y o bs A Q (i + 4) (cl + 1) (sl + 6)) : W p l e room_1 s m args below meth c H locs cl sl Q (F0 m 612 ls []) := by
  obtain ⟨hx, hb, hml, hts, hown, hK, hN, hX, hC, hA, hsc, hbl, hbA, hst, hL⟩ := h0
  refine lv_aload_n hx hb dL_law_612 rfl (lv_at hl 1 rfl) ?_
  refine lv_aload_n hx hb dL_law_613 rfl (lv_at hl 0 rfl) ?_
  refine lv_iload hx hb dL_law_614 (lv_at hl 4 rfl) ?_
  refine lv_iconst (v := nI 1) hx hb dL_law_616 (by decide +kernel) ?_
  refine lv_iadd hx hb dL_law_617 ?_
  refine k_as (nI_add _ _) ?_
  refine k_sld hx hb hsc hbl hbA hS (v := xs (i + 1)) (by omega) hL rfl dL_law_618 ?_
  refine lv_aload_n hx hb dL_law_619 rfl (lv_at hl 3 rfl) ?_
  refine kCallP_i (mc := 1) (ms := 6) (W1 := fun _ : Unit => wC cI cZ cO x a t b ck Ho (sT σ) (sE σ) (sD σ) (sF σ) (sS σ) (sC σ) (sL σ) (sT ρ) (sE ρ) (sD ρ) (sF ρ) (sS ρ) (sC ρ) (sL ρ) Lo Se Ef gp gi am li dl ++ [(o, .inl (cJ, 1, .inr (.inl g)))]) (fun _ _ h => h) hP hD hS hA (fun _ => rfl) (vx_runSW (As := [.ref (x 0), .int (xs (i + 1)), .ref o]) (rest := []) ⟨hx, hb, hml, hown, hts⟩ (c_L_command_bad l hst D cI cZ cO cJ x a t b ck Ho (sT σ) (sE σ) (sD σ) (sF σ) (sS σ) (sC σ) (sL σ) (sT ρ) (sE ρ) (sD ρ) (sF ρ) (sS ρ) (sC ρ) (sL ρ) Lo Se Ef gp gi am li dl (xs (i + 1)) o g H.size h) (vx_cwSW (rm := rxL_command) 3 hts gL_law_L_command rfl rfl rfl (by decide +kernel) ⟨Nat.le_of_ble_eq_true rfl, Nat.le_of_ble_eq_true rfl⟩) (kPreSHW hK hN hX hC (pfP hP) (pfD hD) hS (kfree (pfD hD) hS hA)) rfl rfl hl.1 rfl (lv_room (Nat.le_of_ble_eq_true rfl)) dL_law_620 ⟨by show _ ≤ 653765; omega, by show _ ≤ 7134809; omega⟩) (fun r9 u H locs hr9 hP hD hS => ?_)
  subst hr9
  have hP : va_P D vwCl ((wC cI cZ cO x a t b ck Ho (sT σ) (sE σ) (sD σ) (sF σ) (sS σ) (sC σ) (sL σ) (sT ρ) (sE ρ) (sD ρ) (sF ρ) (sS ρ) (sC ρ) (sL ρ) Lo Se Ef gp gi am li dl ++ [(o, .inl (cJ, 1, .inr (.inl g)))]) ++ wM cI cZ y Lo Se Em gp gi am li dl (rK μ) (rT μ) (rE μ) (rD μ) (rF μ) (rS μ) (rC μ) Hm th) H := hP
  have hD : va_D A ((wC cI cZ cO x a t b ck Ho (sT σ) (sE σ) (sD σ) (sF σ) (sS σ) (sC σ) (sL σ) (sT ρ) (sE ρ) (sD ρ) (sF ρ) (sS ρ) (sC ρ) (sL ρ) Lo Se Ef gp gi am li dl ++ [(o, .inl (cJ, 1, .inr (.inl g)))]) ++ wM cI cZ y Lo Se Em gp gi am li dl (rK μ) (rT μ) (rE μ) (rD μ) (rF μ) (rS μ) (rC μ) Hm th) := hD
  refine lv_istore (lv' := [(5, .int (nI 1)), (0, .ref bs), (1, .ref (x 0)), (2, .ref (y 0)), (3, .ref o), (4, .int (nI i))]) hx hb dL_law_623 hl (by decide) rfl (fun ls hl => ?_)
  refine lv_aload_n hx hb dL_law_625 rfl (lv_at hl 3 rfl) ?_
  refine lv_aload_n hx hb dL_law_626 rfl (lv_at hl 1 rfl) ?_
  refine lv_iload hx hb dL_law_627 (lv_at hl 5 rfl) ?_
  refine lv_iconst (v := nI 1) hx hb dL_law_629 (by decide +kernel) ?_
  refine lv_iadd hx hb dL_law_630 ?_
  refine k_as (nI_add _ _) ?_
  refine k_sld hx hb hsc hbl hbA hS (v := xs (i + 1)) (by omega) hL rfl dL_law_631 ?_
  refine kCallS_i (mc := 0) (ms := 0) (W1 := fun _ : Unit => wM cI cZ y Lo Se Em gp gi am li dl (rK μ) (rT μ) (rE μ) (rD μ) (rF μ) (rS μ) (rC μ) Hm (nI 1)) (fun _ _ h => h) hP hD hS hA (fun _ => rfl) (va_runV (As := [.int (xs (i + 1))]) (rest := []) ⟨hx, hb, hml, hown, hts⟩ (c_X3_command_bad l D cI cZ cO cJ y Lo Se Em gp gi am li dl (rK μ) (rT μ) (rE μ) (rD μ) (rF μ) (rS μ) (rC μ) Hm th (xs (i + 1)) H.size h) (cwV (rm := rmX3_command) 1 hts gL_law_X3_command rfl rfl rfl (by decide +kernel) ⟨Nat.le_of_ble_eq_true rfl, Nat.le_of_ble_eq_true rfl⟩) (kPreVW hK hN (sfP hP) (sfD hD) (va_recv hK (sfP hP) (ci := 3) (q0 := 0) rfl rfl)) rfl rfl hl.1 rfl (lv_room (Nat.le_of_ble_eq_true rfl)) dL_law_632 ⟨by show _ ≤ 653765; omega, by show _ ≤ 7134809; omega⟩) (fun r9 u2 H locs hr9 hP hD hS => ?_)
  subst hr9
  have hP : va_P D vwCl ((wC cI cZ cO x a t b ck Ho (sT σ) (sE σ) (sD σ) (sF σ) (sS σ) (sC σ) (sL σ) (sT ρ) (sE ρ) (sD ρ) (sF ρ) (sS ρ) (sC ρ) (sL ρ) Lo Se Ef gp gi am li dl ++ [(o, .inl (cJ, 1, .inr (.inl g)))]) ++ wM cI cZ y Lo Se Em gp gi am li dl (rK μ) (rT μ) (rE μ) (rD μ) (rF μ) (rS μ) (rC μ) Hm (nI 1)) H := hP
  have hD : va_D A ((wC cI cZ cO x a t b ck Ho (sT σ) (sE σ) (sD σ) (sF σ) (sS σ) (sC σ) (sL σ) (sT ρ) (sE ρ) (sD ρ) (sF ρ) (sS ρ) (sC ρ) (sL ρ) Lo Se Ef gp gi am li dl ++ [(o, .inl (cJ, 1, .inr (.inl g)))]) ++ wM cI cZ y Lo Se Em gp gi am li dl (rK μ) (rT μ) (rE μ) (rD μ) (rF μ) (rS μ) (rC μ) Hm (nI 1)) := hD
  refine lv_istore (lv' := [(6, .int (nI 0)), (5, .int (nI 1)), (0, .ref bs), (1, .ref (x 0)), (2, .ref (y 0)), (3, .ref o), (4, .int (nI i))]) hx hb dL_law_635 hl (by decide) rfl (fun ls hl => ?_)
  refine lv_aload_n hx hb dL_law_637 rfl (lv_at hl 4 rfl) ?_
  refine kCallS_i (mc := 0) (ms := 0) (W1 := fun _ : Unit => wM cI cZ y Lo Se Em gp gi am li dl (rK μ) (rT μ) (rE μ) (rD μ) (rF μ) (rS μ) (rC μ) Hm (nI 1)) (fun _ _ h => h) hP hD hS hA (fun _ => rfl) (va_runV (As := []) (rest := []) ⟨hx, hb, hml, hown, hts⟩ (c_X3_thrown l D cI cZ cO cJ y Lo Se Em gp gi am li dl (rK μ) (rT μ) (rE μ) (rD μ) (rF μ) (rS μ) (rC μ) Hm (nI 1) H.size) (cwV (rm := rmX3_thrown) 0 hts gL_law_X3_thrown rfl rfl rfl (by decide +kernel) ⟨Nat.le_of_ble_eq_true rfl, Nat.le_of_ble_eq_true rfl⟩) (kPreVW hK hN (sfP hP) (sfD hD) (va_recv hK (sfP hP) (ci := 3) (q0 := 0) rfl rfl)) rfl rfl hl.1 rfl (lv_room (Nat.le_of_ble_eq_true rfl)) dL_law_638 ⟨by show _ ≤ 653765; omega, by show _ ≤ 7134809; omega⟩) (fun r9 u3 H locs hr9 hP hD hS => ?_)
  subst hr9
  have hP : va_P D vwCl ((wC cI cZ cO x a t b ck Ho (sT σ) (sE σ) (sD σ) (sF σ) (sS σ) (sC σ) (sL σ) (sT ρ) (sE ρ) (sD ρ) (sF ρ) (sS ρ) (sC ρ) (sL ρ) Lo Se Ef gp gi am li dl ++ [(o, .inl (cJ, 1, .inr (.inl g)))]) ++ wM cI cZ y Lo Se Em gp gi am li dl (rK μ) (rT μ) (rE μ) (rD μ) (rF μ) (rS μ) (rC μ) Hm (nI 1)) H := hP
  have hD : va_D A ((wC cI cZ cO x a t b ck Ho (sT σ) (sE σ) (sD σ) (sF σ) (sS σ) (sC σ) (sL σ) (sT ρ) (sE ρ) (sD ρ) (sF ρ) (sS ρ) (sC ρ) (sL ρ) Lo Se Ef gp gi am li dl ++ [(o, .inl (cJ, 1, .inr (.inl g)))]) ++ wM cI cZ y Lo Se Em gp gi am li dl (rK μ) (rT μ) (rE μ) (rD μ) (rF μ) (rS μ) (rC μ) Hm (nI 1)) := hD
  refine lv_iload hx hb dL_law_641 (lv_at hl 1 rfl) ?_
  refine lv_icmp_eq (tgt := 648) hx hb dL_law_643 (by decide) (fun _ => ?_) (fun c9 => absurd rfl c9)
  refine lv_iload hx hb dL_law_648 (lv_at hl 1 rfl) ?_
  refine lv_if_ne (tgt := 665) hx hb dL_law_650 (by decide) (fun _ => ?_) (fun c9 => absurd c9 (by decide))
  refine lv_goto (tgt := 1234) hx hb dL_law_665 (by decide) ?_
  refine lv_iinc (v := nI (i + 4)) (lv' := [(4, .int (nI (i + 4))), (6, .int (nI 0)), (5, .int (nI 1)), (0, .ref bs), (1, .ref (x 0)), (2, .ref (y 0)), (3, .ref o)]) hx hb dL_law_1234 hl (k := 6) rfl (nI_add _ 4) (by decide) rfl (fun ls hl => ?_)
  refine lv_goto (tgt := 23) hx hb dL_law_1237 (by decide) ?_
  refine W.widen (k := cl + 1) (n := sl + 6) (by omega) (by omega) ?_
  exact kk σ ρ μ ck Ho Hm Lo Se Em Ef gp gi am li dl _ _ hI H locs hP hD hS ls (lv_sub hl [3, 4, 5, 6, 0] rfl)

set_option maxHeartbeats 4000000 in
set_option maxRecDepth 100000 in
theorem lb_speed_ok (f : Nat) (e1 : xs (i + 1) = nI f) (hf : f < 8) (h0 : LC p l s m args c D cI cZ cO cJ bs L xs A) (hi : i + 4 ≤ L) (hcl : cl + 1 ≤ 653765) (hsl : sl + 6 ≤ 7134809) (hI : LI σ μ ck Ho Hm Lo Se Em Ef gp gi am dl) (hP : va_P D vwCl (wL cI cZ cO cJ x a t b y o σ ρ μ ck Ho Hm Lo Se Em Ef gp gi am li dl g th) H) (hD : va_D A (wL cI cZ cO cJ x a t b y o σ ρ μ ck Ho Hm Lo Se Em Ef gp gi am li dl g th)) (hS : va_S A s.heap H locs) (hl : lv_has ls 7 [(0, .ref bs), (1, .ref (x 0)), (2, .ref (y 0)), (3, .ref o), (4, .int (nI i))]) (kk : Hd p l e s m args below meth c D cI cZ cO cJ x a t b y o bs A Q (i + 4) (cl + 1) (sl + 6)) : W p l e room_1 s m args below meth c H locs cl sl Q (F0 m 668 ls []) := by
  obtain ⟨hx, hb, hml, hts, hown, hK, hN, hX, hC, hA, hsc, hbl, hbA, hst, hL⟩ := h0
  refine lv_aload_n hx hb dL_law_668 rfl (lv_at hl 1 rfl) ?_
  refine lv_aload_n hx hb dL_law_669 rfl (lv_at hl 0 rfl) ?_
  refine lv_iload hx hb dL_law_670 (lv_at hl 4 rfl) ?_
  refine lv_iconst (v := nI 1) hx hb dL_law_672 (by decide +kernel) ?_
  refine lv_iadd hx hb dL_law_673 ?_
  refine k_as (nI_add _ _) ?_
  refine k_sld hx hb hsc hbl hbA hS (v := nI f) (by omega) hL e1 dL_law_674 ?_
  refine lv_aload_n hx hb dL_law_675 rfl (lv_at hl 3 rfl) ?_
  refine kCallP_i (mc := 0) (ms := 0) (W1 := fun _ : Unit => wC cI cZ cO x a t b ck Ho (sT σ) (sE σ) (sD σ) (sF σ) (sS σ) (sC σ) (sL σ) (sT ρ) (sE ρ) (sD ρ) (sF ρ) (sS ρ) (sC ρ) (sL ρ) Lo Se Ef gp gi am li dl ++ [(o, .inl (cJ, 1, .inr (.inl (vp_updL g 0 (((sS σ) f)).toInt64))))]) (fun _ _ h => h) hP hD hS hA (fun _ => rfl) (vx_runSW (As := [.ref (x 0), .int (nI f), .ref o]) (rest := []) ⟨hx, hb, hml, hown, hts⟩ (c_L_speed l D cI cZ cO cJ x a t b ck Ho (sT σ) (sE σ) (sD σ) (sF σ) (sS σ) (sC σ) (sL σ) (sT ρ) (sE ρ) (sD ρ) (sF ρ) (sS ρ) (sC ρ) (sL ρ) Lo Se Ef gp gi am li dl f o g H.size hf) (vx_cwSW (rm := rmL_speed) 3 hts gL_law_L_speed rfl rfl rfl (by decide +kernel) ⟨Nat.le_of_ble_eq_true rfl, Nat.le_of_ble_eq_true rfl⟩) (kPreSHW hK hN hX hC (pfP hP) (pfD hD) hS (kfree (pfD hD) hS hA)) rfl rfl hl.1 rfl (lv_room (Nat.le_of_ble_eq_true rfl)) dL_law_676 ⟨by show _ ≤ 653765; omega, by show _ ≤ 7134809; omega⟩) (fun r9 u H locs hr9 hP hD hS => ?_)
  subst hr9
  have hP : va_P D vwCl ((wC cI cZ cO x a t b ck Ho (sT σ) (sE σ) (sD σ) (sF σ) (sS σ) (sC σ) (sL σ) (sT ρ) (sE ρ) (sD ρ) (sF ρ) (sS ρ) (sC ρ) (sL ρ) Lo Se Ef gp gi am li dl ++ [(o, .inl (cJ, 1, .inr (.inl (vp_updL g 0 (((sS σ) f)).toInt64))))]) ++ wM cI cZ y Lo Se Em gp gi am li dl (rK μ) (rT μ) (rE μ) (rD μ) (rF μ) (rS μ) (rC μ) Hm th) H := hP
  have hD : va_D A ((wC cI cZ cO x a t b ck Ho (sT σ) (sE σ) (sD σ) (sF σ) (sS σ) (sC σ) (sL σ) (sT ρ) (sE ρ) (sD ρ) (sF ρ) (sS ρ) (sC ρ) (sL ρ) Lo Se Ef gp gi am li dl ++ [(o, .inl (cJ, 1, .inr (.inl (vp_updL g 0 (((sS σ) f)).toInt64))))]) ++ wM cI cZ y Lo Se Em gp gi am li dl (rK μ) (rT μ) (rE μ) (rD μ) (rF μ) (rS μ) (rC μ) Hm th) := hD
  refine lv_istore (lv' := [(5, .int (nI 0)), (0, .ref bs), (1, .ref (x 0)), (2, .ref (y 0)), (3, .ref o), (4, .int (nI i))]) hx hb dL_law_679 hl (by decide) rfl (fun ls hl => ?_)
  refine lv_aload_n hx hb dL_law_681 rfl (lv_at hl 3 rfl) ?_
  refine lv_aload_n hx hb dL_law_682 rfl (lv_at hl 1 rfl) ?_
  refine lv_iload hx hb dL_law_683 (lv_at hl 5 rfl) ?_
  refine lv_iconst (v := nI 1) hx hb dL_law_685 (by decide +kernel) ?_
  refine lv_iadd hx hb dL_law_686 ?_
  refine k_as (nI_add _ _) ?_
  refine k_sld hx hb hsc hbl hbA hS (v := nI f) (by omega) hL e1 dL_law_687 ?_
  refine kCallS_i (mc := 0) (ms := 0) (W1 := fun _ : Unit => wM cI cZ y Lo Se Em gp gi am li dl (rK μ) (rT μ) (rE μ) (rD μ) (rF μ) (rS μ) (rC μ) Hm (nI 0)) (fun _ _ h => h) hP hD hS hA (fun _ => rfl) (va_runV (As := [.int (nI f)]) (rest := []) ⟨hx, hb, hml, hown, hts⟩ (c_X3_speed_ok l D cI cZ cO cJ y Lo Se Em gp gi am li dl (rK μ) (rT μ) (rE μ) (rD μ) (rF μ) (rS μ) (rC μ) Hm th f H.size hf) (cwV (rm := rmX3_speed) 1 hts gL_law_X3_speed rfl rfl rfl (by decide +kernel) ⟨Nat.le_of_ble_eq_true rfl, Nat.le_of_ble_eq_true rfl⟩) (kPreVW hK hN (sfP hP) (sfD hD) (va_recv hK (sfP hP) (ci := 3) (q0 := 0) rfl rfl)) rfl rfl hl.1 rfl (lv_room (Nat.le_of_ble_eq_true rfl)) dL_law_688 ⟨by show _ ≤ 653765; omega, by show _ ≤ 7134809; omega⟩) (fun r9 u2 H locs hr9 hP hD hS => ?_)
  subst hr9
  have hP : va_P D vwCl ((wC cI cZ cO x a t b ck Ho (sT σ) (sE σ) (sD σ) (sF σ) (sS σ) (sC σ) (sL σ) (sT ρ) (sE ρ) (sD ρ) (sF ρ) (sS ρ) (sC ρ) (sL ρ) Lo Se Ef gp gi am li dl ++ [(o, .inl (cJ, 1, .inr (.inl (vp_updL g 0 (((sS σ) f)).toInt64))))]) ++ wM cI cZ y Lo Se Em gp gi am li dl (rK μ) (rT μ) (rE μ) (rD μ) (rF μ) (rS μ) (rC μ) Hm (nI 0)) H := hP
  have hD : va_D A ((wC cI cZ cO x a t b ck Ho (sT σ) (sE σ) (sD σ) (sF σ) (sS σ) (sC σ) (sL σ) (sT ρ) (sE ρ) (sD ρ) (sF ρ) (sS ρ) (sC ρ) (sL ρ) Lo Se Ef gp gi am li dl ++ [(o, .inl (cJ, 1, .inr (.inl (vp_updL g 0 (((sS σ) f)).toInt64))))]) ++ wM cI cZ y Lo Se Em gp gi am li dl (rK μ) (rT μ) (rE μ) (rD μ) (rF μ) (rS μ) (rC μ) Hm (nI 0)) := hD
  refine lv_istore (lv' := [(6, .int ((rS μ) f)), (5, .int (nI 0)), (0, .ref bs), (1, .ref (x 0)), (2, .ref (y 0)), (3, .ref o), (4, .int (nI i))]) hx hb dL_law_691 hl (by decide) rfl (fun ls hl => ?_)
  refine lv_aload_n hx hb dL_law_693 rfl (lv_at hl 4 rfl) ?_
  refine kCallS_i (mc := 0) (ms := 0) (W1 := fun _ : Unit => wM cI cZ y Lo Se Em gp gi am li dl (rK μ) (rT μ) (rE μ) (rD μ) (rF μ) (rS μ) (rC μ) Hm (nI 0)) (fun _ _ h => h) hP hD hS hA (fun _ => rfl) (va_runV (As := []) (rest := []) ⟨hx, hb, hml, hown, hts⟩ (c_X3_thrown l D cI cZ cO cJ y Lo Se Em gp gi am li dl (rK μ) (rT μ) (rE μ) (rD μ) (rF μ) (rS μ) (rC μ) Hm (nI 0) H.size) (cwV (rm := rmX3_thrown) 0 hts gL_law_X3_thrown rfl rfl rfl (by decide +kernel) ⟨Nat.le_of_ble_eq_true rfl, Nat.le_of_ble_eq_true rfl⟩) (kPreVW hK hN (sfP hP) (sfD hD) (va_recv hK (sfP hP) (ci := 3) (q0 := 0) rfl rfl)) rfl rfl hl.1 rfl (lv_room (Nat.le_of_ble_eq_true rfl)) dL_law_694 ⟨by show _ ≤ 653765; omega, by show _ ≤ 7134809; omega⟩) (fun r9 u3 H locs hr9 hP hD hS => ?_)
  subst hr9
  have hP : va_P D vwCl ((wC cI cZ cO x a t b ck Ho (sT σ) (sE σ) (sD σ) (sF σ) (sS σ) (sC σ) (sL σ) (sT ρ) (sE ρ) (sD ρ) (sF ρ) (sS ρ) (sC ρ) (sL ρ) Lo Se Ef gp gi am li dl ++ [(o, .inl (cJ, 1, .inr (.inl (vp_updL g 0 (((sS σ) f)).toInt64))))]) ++ wM cI cZ y Lo Se Em gp gi am li dl (rK μ) (rT μ) (rE μ) (rD μ) (rF μ) (rS μ) (rC μ) Hm (nI 0)) H := hP
  have hD : va_D A ((wC cI cZ cO x a t b ck Ho (sT σ) (sE σ) (sD σ) (sF σ) (sS σ) (sC σ) (sL σ) (sT ρ) (sE ρ) (sD ρ) (sF ρ) (sS ρ) (sC ρ) (sL ρ) Lo Se Ef gp gi am li dl ++ [(o, .inl (cJ, 1, .inr (.inl (vp_updL g 0 (((sS σ) f)).toInt64))))]) ++ wM cI cZ y Lo Se Em gp gi am li dl (rK μ) (rT μ) (rE μ) (rD μ) (rF μ) (rS μ) (rC μ) Hm (nI 0)) := hD
  refine lv_iload hx hb dL_law_697 (lv_at hl 1 rfl) ?_
  refine lv_icmp_eq (tgt := 704) hx hb dL_law_699 (by decide) (fun _ => ?_) (fun c9 => absurd rfl c9)
  refine lv_iload hx hb dL_law_704 (lv_at hl 1 rfl) ?_
  refine lv_if_ne (tgt := 721) hx hb dL_law_706 (by decide) (fun c9 => absurd rfl c9) (fun _ => ?_)
  refine lv_aload_n hx hb dL_law_709 rfl (lv_at hl 5 rfl) ?_
  refine lv_iconst (v := nI 0) hx hb dL_law_710 (by decide +kernel) ?_
  refine k_laldS hx hb hK 3 rfl hP dL_law_711 ?_
  refine lv_iload hx hb dL_law_712 (lv_at hl 0 rfl) ?_
  refine lv_i2l hx hb dL_law_714 rfl ?_
  refine k_lcmp0 (pk_uLs.trans (congrArg Int32.toInt64 (rel0_S hI.1 hf).symm)) hx hb dL_law_715 ?_
  refine lv_if_eq (tgt := 721) hx hb dL_law_716 (by decide) (fun _ => ?_) (fun c9 => absurd rfl c9)
  refine lv_goto (tgt := 1234) hx hb dL_law_721 (by decide) ?_
  refine lv_iinc (v := nI (i + 4)) (lv' := [(4, .int (nI (i + 4))), (6, .int ((rS μ) f)), (5, .int (nI 0)), (0, .ref bs), (1, .ref (x 0)), (2, .ref (y 0)), (3, .ref o)]) hx hb dL_law_1234 hl (k := 6) rfl (nI_add _ 4) (by decide) rfl (fun ls hl => ?_)
  refine lv_goto (tgt := 23) hx hb dL_law_1237 (by decide) ?_
  refine W.widen (k := cl + 1) (n := sl + 6) (by omega) (by omega) ?_
  exact kk σ ρ μ ck Ho Hm Lo Se Em Ef gp gi am li dl _ _ hI H locs hP hD hS ls (lv_sub hl [3, 4, 5, 6, 0] rfl)

end LB
