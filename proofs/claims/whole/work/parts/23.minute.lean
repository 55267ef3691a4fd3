abbrev rmX3_demands : Room := { frames := 1, cells := 0, slots := 0, locals := 22 }
set_option maxHeartbeats 4000000 in
set_option maxRecDepth 100000 in
/-- demands -/
theorem c_X3_demands (l : Launch) (D : va_G) (cI cZ cO cJ : ClassId) (y : Nat → Nat) (Lo Se Ef : Nat → Int32) (gp gi am li : Int32) (dl : Nat) (ck : Nat → Nat) (T Su Dm F Sp C Ho : Nat → Int32) (th : Int32) (h z0 : Nat) (sz : Nat) (hh : h < 2) (hz0 : z0 < 6) : kMv l yX3_demands wsX3_demands rmX3_demands D (kT cI cZ cO cJ) [.ref (y 0), .int (nI h), .int (nI z0)] (wM cI cZ y Lo Se Ef gp gi am li dl ck T Su Dm F Sp C Ho th) (wM cI cZ y Lo Se Ef gp gi am li dl ck T (upd Su (6 * h + z0) (qEr (T (6 * h + z0)) (Su (6 * h + z0)) (Se z0))) (upd Dm (6 * h + z0) (qRa (fun f => F (8 * h + f)) (fun f => Ef (6 * f + z0)) (qWa gp gi (T (6 * h + z0)) (Se z0) (qEr (T (6 * h + z0)) (Su (6 * h + z0)) (Se z0))))) F Sp C Ho th) sz := by
  refine kEnter (cc := cX3_demands) (maxL := 9) (ret := none) (by decide +kernel) rfl (Nat.le_of_ble_eq_true rfl) ?_
  intro p e s m below meth c args hx hb hr hml hts hown hlocks hin hK hN A hA9 Q hQ9 hP hD hsz hS hA ls hl
  have hl : lv_has ls 9 [(0, .ref (y 0)), (1, .int (nI h)), (2, .int (nI z0))] := hl
  have hi_X3 : ∀ w ∈ u_ws RX3 TX3 17, w ∈ wsX3_demands := by decide +kernel
  obtain ⟨H, hH9⟩ : ∃ H, H = s.heap := ⟨_, rfl⟩
  rw [← hH9] at hP ⊢
  have hS : va_S A s.heap H [] := by rw [hH9]; exact va_S.rf
  refine lv_bipush (v := nI 6) hx hb dX3_demands_0 (by decide +kernel) ?_
  refine lv_iload_n hx hb dX3_demands_2 rfl (lv_at hl 1 rfl) ?_
  refine lv_imul hx hb dX3_demands_3 ?_
  refine k_as (pk_mul _ _) ?_
  refine lv_iload_n hx hb dX3_demands_4 rfl (lv_at hl 2 rfl) ?_
  refine lv_iadd hx hb dX3_demands_5 ?_
  refine k_as (nI_add _ _) ?_
  refine lv_istore_n (lv' := [(3, .int (nI (6 * h + z0))), (0, .ref (y 0)), (1, .int (nI h)), (2, .int (nI z0))]) hx hb dX3_demands_6 rfl hl (by decide) rfl (fun ls hl => ?_)
  refine lv_aload_n hx hb dX3_demands_7 rfl (lv_at hl 1 rfl) ?_
  refine va_get (D := D) (ci := 3) (v := .ref (y 5)) (C := RX3) (T := TX3) (N := 17) hx hb hts hi_X3 hown hK hP 0 rfl rfl 9 (by decide) (hts (.fieldLink RX3 38 "ColdaisleModel" "temperatures" "[I") (by decide +kernel)) (fun _ h9 => h9) rfl dX3_demands_8 ?_
  refine lv_iload_n hx hb dX3_demands_11 rfl (lv_at hl 0 rfl) ?_
  refine k_iald hx hb hK hP 5 0 rfl rfl (i := 6 * h + z0) (by omega) (by decide) dX3_demands_12 ?_
  refine lv_aload_n hx hb dX3_demands_13 rfl (lv_at hl 1 rfl) ?_
  refine va_get (D := D) (ci := 3) (v := .ref (y 2)) (C := RX3) (T := TX3) (N := 17) hx hb hts hi_X3 hown hK hP 0 rfl rfl 1 (by decide) (hts (.fieldLink RX3 13 "ColdaisleModel" "setpoints" "[I") (by decide +kernel)) (fun _ h9 => h9) rfl dX3_demands_14 ?_
  refine lv_iload_n hx hb dX3_demands_17 rfl (lv_at hl 3 rfl) ?_
  refine k_iald hx hb hK hP 2 0 rfl rfl (i := z0) (by omega) (by decide) dX3_demands_18 ?_
  refine lv_isub hx hb dX3_demands_19 ?_
  refine lv_istore (lv' := [(4, .int ((T (6 * h + z0)) - (Se z0))), (3, .int (nI (6 * h + z0))), (0, .ref (y 0)), (1, .int (nI h)), (2, .int (nI z0))]) hx hb dX3_demands_20 hl (by decide) rfl (fun ls hl => ?_)
  refine lv_iconst (v := nI 0) hx hb dX3_demands_22 (by decide +kernel) ?_
  refine lv_istore (lv' := [(5, .int (nI 0)), (4, .int ((T (6 * h + z0)) - (Se z0))), (3, .int (nI (6 * h + z0))), (0, .ref (y 0)), (1, .int (nI h)), (2, .int (nI z0))]) hx hb dX3_demands_23 hl (by decide) rfl (fun ls hl => ?_)
  refine lv_iconst (v := nI 0) hx hb dX3_demands_25 (by decide +kernel) ?_
  refine lv_istore (lv' := [(6, .int (nI 0)), (5, .int (nI 0)), (4, .int ((T (6 * h + z0)) - (Se z0))), (3, .int (nI (6 * h + z0))), (0, .ref (y 0)), (1, .int (nI h)), (2, .int (nI z0))]) hx hb dX3_demands_26 hl (by decide) rfl (fun ls hl => ?_)
  refine lv_aload_n hx hb dX3_demands_28 rfl (lv_at hl 4 rfl) ?_
  refine va_get (D := D) (ci := 3) (v := .ref (y 6)) (C := RX3) (T := TX3) (N := 17) hx hb hts hi_X3 hown hK hP 0 rfl rfl 10 (by decide) (hts (.fieldLink RX3 41 "ColdaisleModel" "sums" "[I") (by decide +kernel)) (fun _ h9 => h9) rfl dX3_demands_29 ?_
  refine lv_iload_n hx hb dX3_demands_32 rfl (lv_at hl 3 rfl) ?_
  refine lv_aload_n hx hb dX3_demands_33 rfl (lv_at hl 4 rfl) ?_
  refine va_get (D := D) (ci := 3) (v := .ref (y 6)) (C := RX3) (T := TX3) (N := 17) hx hb hts hi_X3 hown hK hP 0 rfl rfl 10 (by decide) (hts (.fieldLink RX3 41 "ColdaisleModel" "sums" "[I") (by decide +kernel)) (fun _ h9 => h9) rfl dX3_demands_34 ?_
  refine lv_iload_n hx hb dX3_demands_37 rfl (lv_at hl 3 rfl) ?_
  refine k_iald hx hb hK hP 6 0 rfl rfl (i := 6 * h + z0) (by omega) (by decide) dX3_demands_38 ?_
  refine lv_iload hx hb dX3_demands_39 (lv_at hl 2 rfl) ?_
  refine lv_iadd hx hb dX3_demands_41 ?_
  refine lv_sipush (v := (-20000)) hx hb dX3_demands_42 (by decide +kernel) ?_
  refine lv_sipush (v := nI 20000) hx hb dX3_demands_45 (by decide +kernel) ?_
  refine kCall_i (W0 := []) (W1 := []) hP hD hS hA [] rfl rfl (va_runS (As := [.int ((Su (6 * h + z0)) + ((T (6 * h + z0)) - (Se z0))), .int (-20000), .int (nI 20000)]) (rest := [.int (nI (6 * h + z0)), .ref (y 6)]) ⟨hx, hb, hml, hown, hts⟩ (c_X3_held l D cI cZ cO cJ ((Su (6 * h + z0)) + ((T (6 * h + z0)) - (Se z0))) (-20000) (nI 20000) H.size) (va_cwS (rm := rmX3_held) 3 hts gX3_demands_X3_held rfl rfl rfl (by decide +kernel) ⟨Nat.le_of_ble_eq_true rfl, Nat.le_of_ble_eq_true rfl⟩) (kPreS hK hN hP hD [] rfl rfl) rfl rfl hl.1 rfl (lv_room (Nat.le_of_ble_eq_true rfl)) dX3_demands_48 ⟨Nat.zero_le _, Nat.zero_le _⟩) (fun H locs hP hD hS => ?_)
  have hP : va_P D vwCl (wM cI cZ y Lo Se Ef gp gi am li dl ck T Su Dm F Sp C Ho th) H := hP
  have hD : va_D A (wM cI cZ y Lo Se Ef gp gi am li dl ck T Su Dm F Sp C Ho th) := hD
  refine k_iast hx hb hK hP hD hS 6 0 rfl rfl (i := 6 * h + z0) (x := qHeld ((Su (6 * h + z0)) + ((T (6 * h + z0)) - (Se z0))) (-20000) (nI 20000)) (by omega) (by decide) dX3_demands_51 (fun H locs hP hD hS => ?_)
  have hP : va_P D vwCl (wM cI cZ y Lo Se Ef gp gi am li dl ck T (upd Su (6 * h + z0) (qHeld ((Su (6 * h + z0)) + ((T (6 * h + z0)) - (Se z0))) (-20000) (nI 20000))) Dm F Sp C Ho th) H := hP
  have hD : va_D A (wM cI cZ y Lo Se Ef gp gi am li dl ck T (upd Su (6 * h + z0) (qHeld ((Su (6 * h + z0)) + ((T (6 * h + z0)) - (Se z0))) (-20000) (nI 20000))) Dm F Sp C Ho th) := hD
  have hP : va_P D vwCl (wM cI cZ y Lo Se Ef gp gi am li dl ck T (upd Su (6 * h + z0) (qEr (T (6 * h + z0)) (Su (6 * h + z0)) (Se z0))) Dm F Sp C Ho th) H := hP
  have hD : va_D A (wM cI cZ y Lo Se Ef gp gi am li dl ck T (upd Su (6 * h + z0) (qEr (T (6 * h + z0)) (Su (6 * h + z0)) (Se z0))) Dm F Sp C Ho th) := hD
  refine lv_aload_n hx hb dX3_demands_52 rfl (lv_at hl 4 rfl) ?_
  refine va_get (D := D) (ci := 3) (v := .int gp) (C := RX3) (T := TX3) (N := 17) hx hb hts hi_X3 hown hK hP 0 rfl rfl 3 (by decide) (hts (.fieldLink RX3 19 "ColdaisleModel" "proportional" "I") (by decide +kernel)) (fun _ h9 => h9) rfl dX3_demands_53 ?_
  refine lv_iload hx hb dX3_demands_56 (lv_at hl 2 rfl) ?_
  refine lv_imul hx hb dX3_demands_58 ?_
  refine lv_aload_n hx hb dX3_demands_59 rfl (lv_at hl 4 rfl) ?_
  refine va_get (D := D) (ci := 3) (v := .int gi) (C := RX3) (T := TX3) (N := 17) hx hb hts hi_X3 hown hK hP 0 rfl rfl 4 (by decide) (hts (.fieldLink RX3 23 "ColdaisleModel" "integral" "I") (by decide +kernel)) (fun _ h9 => h9) rfl dX3_demands_60 ?_
  refine lv_aload_n hx hb dX3_demands_63 rfl (lv_at hl 4 rfl) ?_
  refine va_get (D := D) (ci := 3) (v := .ref (y 6)) (C := RX3) (T := TX3) (N := 17) hx hb hts hi_X3 hown hK hP 0 rfl rfl 10 (by decide) (hts (.fieldLink RX3 41 "ColdaisleModel" "sums" "[I") (by decide +kernel)) (fun _ h9 => h9) rfl dX3_demands_64 ?_
  refine lv_iload_n hx hb dX3_demands_67 rfl (lv_at hl 3 rfl) ?_
  refine k_iald hx hb hK hP 6 0 rfl rfl (i := 6 * h + z0) (by omega) (by decide) dX3_demands_68 ?_
  refine k_as (pk_us) ?_
  refine lv_imul hx hb dX3_demands_69 ?_
  refine lv_bipush (v := nI 100) hx hb dX3_demands_70 (by decide +kernel) ?_
  refine kCall_i (W0 := []) (W1 := []) hP hD hS hA [] rfl rfl (va_runS (As := [.int (gi * (qEr (T (6 * h + z0)) (Su (6 * h + z0)) (Se z0))), .int (nI 100)]) (rest := [.int (gp * ((T (6 * h + z0)) - (Se z0)))]) ⟨hx, hb, hml, hown, hts⟩ (c_X3_part l D cI cZ cO cJ (gi * (qEr (T (6 * h + z0)) (Su (6 * h + z0)) (Se z0))) (nI 100) H.size (by decide +kernel)) (va_cwS (rm := rmX3_part) 2 hts gX3_demands_X3_part rfl rfl rfl (by decide +kernel) ⟨Nat.le_of_ble_eq_true rfl, Nat.le_of_ble_eq_true rfl⟩) (kPreS hK hN hP hD [] rfl rfl) rfl rfl hl.1 rfl (lv_room (Nat.le_of_ble_eq_true rfl)) dX3_demands_72 ⟨Nat.zero_le _, Nat.zero_le _⟩) (fun H locs hP hD hS => ?_)
  have hP : va_P D vwCl (wM cI cZ y Lo Se Ef gp gi am li dl ck T (upd Su (6 * h + z0) (qEr (T (6 * h + z0)) (Su (6 * h + z0)) (Se z0))) Dm F Sp C Ho th) H := hP
  have hD : va_D A (wM cI cZ y Lo Se Ef gp gi am li dl ck T (upd Su (6 * h + z0) (qEr (T (6 * h + z0)) (Su (6 * h + z0)) (Se z0))) Dm F Sp C Ho th) := hD
  refine lv_iadd hx hb dX3_demands_75 ?_
  refine lv_bipush (v := nI 100) hx hb dX3_demands_76 (by decide +kernel) ?_
  refine kCall_i (W0 := []) (W1 := []) hP hD hS hA [] rfl rfl (va_runS (As := [.int ((gp * ((T (6 * h + z0)) - (Se z0))) + (qPart (gi * (qEr (T (6 * h + z0)) (Su (6 * h + z0)) (Se z0))) (nI 100))), .int (nI 100)]) (rest := []) ⟨hx, hb, hml, hown, hts⟩ (c_X3_part l D cI cZ cO cJ ((gp * ((T (6 * h + z0)) - (Se z0))) + (qPart (gi * (qEr (T (6 * h + z0)) (Su (6 * h + z0)) (Se z0))) (nI 100))) (nI 100) H.size (by decide +kernel)) (va_cwS (rm := rmX3_part) 2 hts gX3_demands_X3_part rfl rfl rfl (by decide +kernel) ⟨Nat.le_of_ble_eq_true rfl, Nat.le_of_ble_eq_true rfl⟩) (kPreS hK hN hP hD [] rfl rfl) rfl rfl hl.1 rfl (lv_room (Nat.le_of_ble_eq_true rfl)) dX3_demands_78 ⟨Nat.zero_le _, Nat.zero_le _⟩) (fun H locs hP hD hS => ?_)
  have hP : va_P D vwCl (wM cI cZ y Lo Se Ef gp gi am li dl ck T (upd Su (6 * h + z0) (qEr (T (6 * h + z0)) (Su (6 * h + z0)) (Se z0))) Dm F Sp C Ho th) H := hP
  have hD : va_D A (wM cI cZ y Lo Se Ef gp gi am li dl ck T (upd Su (6 * h + z0) (qEr (T (6 * h + z0)) (Su (6 * h + z0)) (Se z0))) Dm F Sp C Ho th) := hD
  refine lv_iconst (v := nI 0) hx hb dX3_demands_81 (by decide +kernel) ?_
  refine lv_bipush (v := nI 100) hx hb dX3_demands_82 (by decide +kernel) ?_
  refine kCall_i (W0 := []) (W1 := []) hP hD hS hA [] rfl rfl (va_runS (As := [.int (qPart ((gp * ((T (6 * h + z0)) - (Se z0))) + (qPart (gi * (qEr (T (6 * h + z0)) (Su (6 * h + z0)) (Se z0))) (nI 100))) (nI 100)), .int (nI 0), .int (nI 100)]) (rest := []) ⟨hx, hb, hml, hown, hts⟩ (c_X3_held l D cI cZ cO cJ (qPart ((gp * ((T (6 * h + z0)) - (Se z0))) + (qPart (gi * (qEr (T (6 * h + z0)) (Su (6 * h + z0)) (Se z0))) (nI 100))) (nI 100)) (nI 0) (nI 100) H.size) (va_cwS (rm := rmX3_held) 3 hts gX3_demands_X3_held rfl rfl rfl (by decide +kernel) ⟨Nat.le_of_ble_eq_true rfl, Nat.le_of_ble_eq_true rfl⟩) (kPreS hK hN hP hD [] rfl rfl) rfl rfl hl.1 rfl (lv_room (Nat.le_of_ble_eq_true rfl)) dX3_demands_84 ⟨Nat.zero_le _, Nat.zero_le _⟩) (fun H locs hP hD hS => ?_)
  have hP : va_P D vwCl (wM cI cZ y Lo Se Ef gp gi am li dl ck T (upd Su (6 * h + z0) (qEr (T (6 * h + z0)) (Su (6 * h + z0)) (Se z0))) Dm F Sp C Ho th) H := hP
  have hD : va_D A (wM cI cZ y Lo Se Ef gp gi am li dl ck T (upd Su (6 * h + z0) (qEr (T (6 * h + z0)) (Su (6 * h + z0)) (Se z0))) Dm F Sp C Ho th) := hD
  refine lv_istore (lv' := [(7, .int (qHeld (qPart ((gp * ((T (6 * h + z0)) - (Se z0))) + (qPart (gi * (qEr (T (6 * h + z0)) (Su (6 * h + z0)) (Se z0))) (nI 100))) (nI 100)) (nI 0) (nI 100))), (6, .int (nI 0)), (5, .int (nI 0)), (4, .int ((T (6 * h + z0)) - (Se z0))), (3, .int (nI (6 * h + z0))), (0, .ref (y 0)), (1, .int (nI h)), (2, .int (nI z0))]) hx hb dX3_demands_87 hl (by decide) rfl (fun ls hl => ?_)
  refine lv_iconst (v := nI 0) hx hb dX3_demands_89 (by decide +kernel) ?_
  refine lv_istore (lv' := [(8, .int (nI 0)), (7, .int (qHeld (qPart ((gp * ((T (6 * h + z0)) - (Se z0))) + (qPart (gi * (qEr (T (6 * h + z0)) (Su (6 * h + z0)) (Se z0))) (nI 100))) (nI 100)) (nI 0) (nI 100))), (6, .int (nI 0)), (5, .int (nI 0)), (4, .int ((T (6 * h + z0)) - (Se z0))), (3, .int (nI (6 * h + z0))), (0, .ref (y 0)), (1, .int (nI h)), (2, .int (nI z0))]) hx hb dX3_demands_90 hl (by decide) rfl (fun ls hl => ?_)
  have lp : ∀ (n z : Nat), z + n = 8 → ∀ (H : Heap) (locs : List Loc), va_P D vwCl (wM cI cZ y Lo Se Ef gp gi am li dl ck T (upd Su (6 * h + z0) (qEr (T (6 * h + z0)) (Su (6 * h + z0)) (Se z0))) Dm F Sp C Ho th) H → va_D A (wM cI cZ y Lo Se Ef gp gi am li dl ck T (upd Su (6 * h + z0) (qEr (T (6 * h + z0)) (Su (6 * h + z0)) (Se z0))) Dm F Sp C Ho th) → va_S A s.heap H locs → ∀ ls : Array Slot, lv_has ls 9 [(0, .ref (y 0)), (1, .int (nI h)), (2, .int (nI z0)), (3, .int (nI (6 * h + z0))), (4, .int (T (6 * h + z0) - Se z0)), (5, .int (mSum (fun f => Ef (6 * f + z0)) z)), (6, .int (mRun (fun f => F (8 * h + f)) (fun f => Ef (6 * f + z0)) z)), (7, .int (qWa gp gi (T (6 * h + z0)) (Se z0) (qEr (T (6 * h + z0)) (Su (6 * h + z0)) (Se z0)))), (8, .int (nI z))] → W p l e rmX3_demands s m args below meth c H locs 0 0 Q (F0 m 92 ls []) := by
    intro n
    induction n with
    | zero =>
      intro z hz H locs hP hD hS ls hl
      have hz9 : z = 8 := by omega
      subst hz9
      refine lv_iload hx hb dX3_demands_92 (lv_at hl 8 rfl) ?_
      refine lv_bipush (v := nI 8) hx hb dX3_demands_94 (by decide +kernel) ?_
      refine lv_icmp_ge (tgt := 158) hx hb dX3_demands_96 (by decide) (fun _ => ?_) (fun c9 => absurd (by decide +kernel) c9)
      refine lv_aload_n hx hb dX3_demands_158 rfl (lv_at hl 0 rfl) ?_
      refine va_get (D := D) (ci := 3) (v := .ref (y 7)) (C := RX3) (T := TX3) (N := 17) hx hb hts hi_X3 hown hK hP 0 rfl rfl 11 (by decide) (hts (.fieldLink RX3 44 "ColdaisleModel" "demands" "[I") (by decide +kernel)) (fun _ h9 => h9) rfl dX3_demands_159 ?_
      refine lv_iload_n hx hb dX3_demands_162 rfl (lv_at hl 3 rfl) ?_
      refine lv_iload hx hb dX3_demands_163 (lv_at hl 5 rfl) ?_
      refine lv_iload hx hb dX3_demands_165 (lv_at hl 6 rfl) ?_
      refine lv_icmp_ne (tgt := 175) hx hb dX3_demands_167 (by decide) (fun c1 => ?_) (fun c1 => ?_)
      · refine lv_iload hx hb dX3_demands_175 (lv_at hl 6 rfl) ?_
        refine lv_if_ne (tgt := 185) hx hb dX3_demands_177 (by decide) (fun c2 => ?_) (fun c2 => ?_)
        · refine lv_iload hx hb dX3_demands_185 (lv_at hl 7 rfl) ?_
          refine lv_iload hx hb dX3_demands_187 (lv_at hl 5 rfl) ?_
          refine lv_imul hx hb dX3_demands_189 ?_
          refine lv_iload hx hb dX3_demands_190 (lv_at hl 6 rfl) ?_
          refine lv_idiv hx hb dX3_demands_192 c2 ?_
          refine lv_iconst (v := nI 0) hx hb dX3_demands_193 (by decide +kernel) ?_
          refine lv_bipush (v := nI 100) hx hb dX3_demands_194 (by decide +kernel) ?_
          refine kCall_i (W0 := []) (W1 := []) hP hD hS hA [] rfl rfl (va_runS (As := [.int (((qWa gp gi (T (6 * h + z0)) (Se z0) (qEr (T (6 * h + z0)) (Su (6 * h + z0)) (Se z0))) * (mSum (fun f => Ef (6 * f + z0)) 8)) / (mRun (fun f => F (8 * h + f)) (fun f => Ef (6 * f + z0)) 8)), .int (nI 0), .int (nI 100)]) (rest := [.int (nI (6 * h + z0)), .ref (y 7)]) ⟨hx, hb, hml, hown, hts⟩ (c_X3_held l D cI cZ cO cJ (((qWa gp gi (T (6 * h + z0)) (Se z0) (qEr (T (6 * h + z0)) (Su (6 * h + z0)) (Se z0))) * (mSum (fun f => Ef (6 * f + z0)) 8)) / (mRun (fun f => F (8 * h + f)) (fun f => Ef (6 * f + z0)) 8)) (nI 0) (nI 100) H.size) (va_cwS (rm := rmX3_held) 3 hts gX3_demands_X3_held rfl rfl rfl (by decide +kernel) ⟨Nat.le_of_ble_eq_true rfl, Nat.le_of_ble_eq_true rfl⟩) (kPreS hK hN hP hD [] rfl rfl) rfl rfl hl.1 rfl (lv_room (Nat.le_of_ble_eq_true rfl)) dX3_demands_196 ⟨Nat.zero_le _, Nat.zero_le _⟩) (fun H locs hP hD hS => ?_)
          have hP : va_P D vwCl (wM cI cZ y Lo Se Ef gp gi am li dl ck T (upd Su (6 * h + z0) (qEr (T (6 * h + z0)) (Su (6 * h + z0)) (Se z0))) Dm F Sp C Ho th) H := hP
          have hD : va_D A (wM cI cZ y Lo Se Ef gp gi am li dl ck T (upd Su (6 * h + z0) (qEr (T (6 * h + z0)) (Su (6 * h + z0)) (Se z0))) Dm F Sp C Ho th) := hD
          refine k_as (y := qRa (fun f => F (8 * h + f)) (fun f => Ef (6 * f + z0)) (qWa gp gi (T (6 * h + z0)) (Se z0) (qEr (T (6 * h + z0)) (Su (6 * h + z0)) (Se z0)))) (Eq.symm (by unfold qRa; rw [if_neg c1, if_neg c2])) ?_
          refine k_iast hx hb hK hP hD hS 7 0 rfl rfl (i := 6 * h + z0) (x := qRa (fun f => F (8 * h + f)) (fun f => Ef (6 * f + z0)) (qWa gp gi (T (6 * h + z0)) (Se z0) (qEr (T (6 * h + z0)) (Su (6 * h + z0)) (Se z0)))) (by omega) (by decide) dX3_demands_199 (fun H locs hP hD hS => ?_)
          have hP : va_P D vwCl (wM cI cZ y Lo Se Ef gp gi am li dl ck T (upd Su (6 * h + z0) (qEr (T (6 * h + z0)) (Su (6 * h + z0)) (Se z0))) (upd Dm (6 * h + z0) (qRa (fun f => F (8 * h + f)) (fun f => Ef (6 * f + z0)) (qWa gp gi (T (6 * h + z0)) (Se z0) (qEr (T (6 * h + z0)) (Su (6 * h + z0)) (Se z0))))) F Sp C Ho th) H := hP
          have hD : va_D A (wM cI cZ y Lo Se Ef gp gi am li dl ck T (upd Su (6 * h + z0) (qEr (T (6 * h + z0)) (Su (6 * h + z0)) (Se z0))) (upd Dm (6 * h + z0) (qRa (fun f => F (8 * h + f)) (fun f => Ef (6 * f + z0)) (qWa gp gi (T (6 * h + z0)) (Se z0) (qEr (T (6 * h + z0)) (Su (6 * h + z0)) (Se z0))))) F Sp C Ho th) := hD
          subst hQ9
          subst hA9
          exact kRet_v hx hb hr hlocks hP hS dX3_demands_200
        · refine lv_bipush (v := nI 100) hx hb dX3_demands_180 (by decide +kernel) ?_
          refine lv_goto (tgt := 199) hx hb dX3_demands_182 (by decide) ?_
          refine k_as (y := qRa (fun f => F (8 * h + f)) (fun f => Ef (6 * f + z0)) (qWa gp gi (T (6 * h + z0)) (Se z0) (qEr (T (6 * h + z0)) (Su (6 * h + z0)) (Se z0)))) (Eq.symm (by unfold qRa; rw [if_neg c1, if_pos c2])) ?_
          refine k_iast hx hb hK hP hD hS 7 0 rfl rfl (i := 6 * h + z0) (x := qRa (fun f => F (8 * h + f)) (fun f => Ef (6 * f + z0)) (qWa gp gi (T (6 * h + z0)) (Se z0) (qEr (T (6 * h + z0)) (Su (6 * h + z0)) (Se z0)))) (by omega) (by decide) dX3_demands_199 (fun H locs hP hD hS => ?_)
          have hP : va_P D vwCl (wM cI cZ y Lo Se Ef gp gi am li dl ck T (upd Su (6 * h + z0) (qEr (T (6 * h + z0)) (Su (6 * h + z0)) (Se z0))) (upd Dm (6 * h + z0) (qRa (fun f => F (8 * h + f)) (fun f => Ef (6 * f + z0)) (qWa gp gi (T (6 * h + z0)) (Se z0) (qEr (T (6 * h + z0)) (Su (6 * h + z0)) (Se z0))))) F Sp C Ho th) H := hP
          have hD : va_D A (wM cI cZ y Lo Se Ef gp gi am li dl ck T (upd Su (6 * h + z0) (qEr (T (6 * h + z0)) (Su (6 * h + z0)) (Se z0))) (upd Dm (6 * h + z0) (qRa (fun f => F (8 * h + f)) (fun f => Ef (6 * f + z0)) (qWa gp gi (T (6 * h + z0)) (Se z0) (qEr (T (6 * h + z0)) (Su (6 * h + z0)) (Se z0))))) F Sp C Ho th) := hD
          subst hQ9
          subst hA9
          exact kRet_v hx hb hr hlocks hP hS dX3_demands_200
      · refine lv_iload hx hb dX3_demands_170 (lv_at hl 7 rfl) ?_
        refine lv_goto (tgt := 199) hx hb dX3_demands_172 (by decide) ?_
        refine k_as (y := qRa (fun f => F (8 * h + f)) (fun f => Ef (6 * f + z0)) (qWa gp gi (T (6 * h + z0)) (Se z0) (qEr (T (6 * h + z0)) (Su (6 * h + z0)) (Se z0)))) (Eq.symm (by unfold qRa; rw [if_pos c1])) ?_
        refine k_iast hx hb hK hP hD hS 7 0 rfl rfl (i := 6 * h + z0) (x := qRa (fun f => F (8 * h + f)) (fun f => Ef (6 * f + z0)) (qWa gp gi (T (6 * h + z0)) (Se z0) (qEr (T (6 * h + z0)) (Su (6 * h + z0)) (Se z0)))) (by omega) (by decide) dX3_demands_199 (fun H locs hP hD hS => ?_)
        have hP : va_P D vwCl (wM cI cZ y Lo Se Ef gp gi am li dl ck T (upd Su (6 * h + z0) (qEr (T (6 * h + z0)) (Su (6 * h + z0)) (Se z0))) (upd Dm (6 * h + z0) (qRa (fun f => F (8 * h + f)) (fun f => Ef (6 * f + z0)) (qWa gp gi (T (6 * h + z0)) (Se z0) (qEr (T (6 * h + z0)) (Su (6 * h + z0)) (Se z0))))) F Sp C Ho th) H := hP
        have hD : va_D A (wM cI cZ y Lo Se Ef gp gi am li dl ck T (upd Su (6 * h + z0) (qEr (T (6 * h + z0)) (Su (6 * h + z0)) (Se z0))) (upd Dm (6 * h + z0) (qRa (fun f => F (8 * h + f)) (fun f => Ef (6 * f + z0)) (qWa gp gi (T (6 * h + z0)) (Se z0) (qEr (T (6 * h + z0)) (Su (6 * h + z0)) (Se z0))))) F Sp C Ho th) := hD
        subst hQ9
        subst hA9
        exact kRet_v hx hb hr hlocks hP hS dX3_demands_200
    | succ n ih =>
      intro z hz H locs hP hD hS ls hl
      have hzb : z < 8 := by omega
      refine lv_iload hx hb dX3_demands_92 (lv_at hl 8 rfl) ?_
      refine lv_bipush (v := nI 8) hx hb dX3_demands_94 (by decide +kernel) ?_
      refine lv_icmp_ge (tgt := 158) hx hb dX3_demands_96 (by decide) (fun c9 => absurd c9 (nI_ge hzb (by decide))) (fun _ => ?_)
      refine lv_iload hx hb dX3_demands_99 (lv_at hl 5 rfl) ?_
      refine lv_aload_n hx hb dX3_demands_101 rfl (lv_at hl 0 rfl) ?_
      refine va_get (D := D) (ci := 3) (v := .ref (y 3)) (C := RX3) (T := TX3) (N := 17) hx hb hts hi_X3 hown hK hP 0 rfl rfl 2 (by decide) (hts (.fieldLink RX3 16 "ColdaisleModel" "effects" "[I") (by decide +kernel)) (fun _ h9 => h9) rfl dX3_demands_102 ?_
      refine lv_bipush (v := nI 6) hx hb dX3_demands_105 (by decide +kernel) ?_
      refine lv_iload hx hb dX3_demands_107 (lv_at hl 8 rfl) ?_
      refine lv_imul hx hb dX3_demands_109 ?_
      refine k_as (pk_mul _ _) ?_
      refine lv_iload_n hx hb dX3_demands_110 rfl (lv_at hl 2 rfl) ?_
      refine lv_iadd hx hb dX3_demands_111 ?_
      refine k_as (nI_add _ _) ?_
      refine k_iald hx hb hK hP 3 0 rfl rfl (i := 6 * z + z0) (by omega) (by decide) dX3_demands_112 ?_
      refine lv_iadd hx hb dX3_demands_113 ?_
      refine lv_istore (lv' := [(5, .int ((mSum (fun f => Ef (6 * f + z0)) z) + (Ef (6 * z + z0)))), (0, .ref (y 0)), (1, .int (nI h)), (2, .int (nI z0)), (3, .int (nI (6 * h + z0))), (4, .int (T (6 * h + z0) - Se z0)), (6, .int (mRun (fun f => F (8 * h + f)) (fun f => Ef (6 * f + z0)) z)), (7, .int (qWa gp gi (T (6 * h + z0)) (Se z0) (qEr (T (6 * h + z0)) (Su (6 * h + z0)) (Se z0)))), (8, .int (nI z))]) hx hb dX3_demands_114 hl (by decide) rfl (fun ls hl => ?_)
      refine lv_iload hx hb dX3_demands_116 (lv_at hl 6 rfl) ?_
      refine lv_aload_n hx hb dX3_demands_118 rfl (lv_at hl 1 rfl) ?_
      refine va_get (D := D) (ci := 3) (v := .ref (y 8)) (C := RX3) (T := TX3) (N := 17) hx hb hts hi_X3 hown hK hP 0 rfl rfl 12 (by decide) (hts (.fieldLink RX3 47 "ColdaisleModel" "hasFailed" "[Z") (by decide +kernel)) (fun _ h9 => h9) rfl dX3_demands_119 ?_
      refine lv_bipush (v := nI 8) hx hb dX3_demands_122 (by decide +kernel) ?_
      refine lv_iload_n hx hb dX3_demands_124 rfl (lv_at hl 2 rfl) ?_
      refine lv_imul hx hb dX3_demands_125 ?_
      refine k_as (pk_mul _ _) ?_
      refine lv_iload hx hb dX3_demands_126 (lv_at hl 8 rfl) ?_
      refine lv_iadd hx hb dX3_demands_128 ?_
      refine k_as (nI_add _ _) ?_
      refine k_zald hx hb hK hP 8 1 rfl rfl (i := 8 * h + z) (by omega) (by decide) dX3_demands_129 ?_
      refine lv_if_eq (tgt := 137) hx hb dX3_demands_130 (by decide) (fun c1 => ?_) (fun c1 => ?_)
      · refine lv_aload_n hx hb dX3_demands_137 rfl (lv_at hl 1 rfl) ?_
        refine va_get (D := D) (ci := 3) (v := .ref (y 3)) (C := RX3) (T := TX3) (N := 17) hx hb hts hi_X3 hown hK hP 0 rfl rfl 2 (by decide) (hts (.fieldLink RX3 16 "ColdaisleModel" "effects" "[I") (by decide +kernel)) (fun _ h9 => h9) rfl dX3_demands_138 ?_
        refine lv_bipush (v := nI 6) hx hb dX3_demands_141 (by decide +kernel) ?_
        refine lv_iload hx hb dX3_demands_143 (lv_at hl 8 rfl) ?_
        refine lv_imul hx hb dX3_demands_145 ?_
        refine k_as (pk_mul _ _) ?_
        refine lv_iload_n hx hb dX3_demands_146 rfl (lv_at hl 3 rfl) ?_
        refine lv_iadd hx hb dX3_demands_147 ?_
        refine k_as (nI_add _ _) ?_
        refine k_iald hx hb hK hP 3 0 rfl rfl (i := 6 * z + z0) (by omega) (by decide) dX3_demands_148 ?_
        refine lv_iadd hx hb dX3_demands_149 ?_
        refine lv_istore (lv' := [(6, .int ((mRun (fun f => F (8 * h + f)) (fun f => Ef (6 * f + z0)) z) + (Ef (6 * z + z0)))), (5, .int ((mSum (fun f => Ef (6 * f + z0)) z) + (Ef (6 * z + z0)))), (0, .ref (y 0)), (1, .int (nI h)), (2, .int (nI z0)), (3, .int (nI (6 * h + z0))), (4, .int (T (6 * h + z0) - Se z0)), (7, .int (qWa gp gi (T (6 * h + z0)) (Se z0) (qEr (T (6 * h + z0)) (Su (6 * h + z0)) (Se z0)))), (8, .int (nI z))]) hx hb dX3_demands_150 hl (by decide) rfl (fun ls hl => ?_)
        refine lv_iinc (v := nI (z + 1)) (lv' := [(8, .int (nI (z + 1))), (6, .int ((mRun (fun f => F (8 * h + f)) (fun f => Ef (6 * f + z0)) z) + (Ef (6 * z + z0)))), (5, .int ((mSum (fun f => Ef (6 * f + z0)) z) + (Ef (6 * z + z0)))), (0, .ref (y 0)), (1, .int (nI h)), (2, .int (nI z0)), (3, .int (nI (6 * h + z0))), (4, .int (T (6 * h + z0) - Se z0)), (7, .int (qWa gp gi (T (6 * h + z0)) (Se z0) (qEr (T (6 * h + z0)) (Su (6 * h + z0)) (Se z0))))]) hx hb dX3_demands_152 hl (k := 8) rfl (k_inc _) (by decide) rfl (fun ls hl => ?_)
        refine lv_goto (tgt := 92) hx hb dX3_demands_155 (by decide) ?_
        exact ih (z + 1) (by omega) H locs hP hD hS ls (by rw [mRun_t (fun f => F (8 * h + f)) (fun f => Ef (6 * f + z0)) z c1]; exact (lv_sub hl [3, 4, 5, 6, 7, 2, 1, 8, 0] rfl))
      · refine lv_iconst (v := nI 0) hx hb dX3_demands_133 (by decide +kernel) ?_
        refine lv_goto (tgt := 149) hx hb dX3_demands_134 (by decide) ?_
        refine lv_iadd hx hb dX3_demands_149 ?_
        refine k_as (add_nI0 _) ?_
        refine lv_istore (lv' := [(6, .int (mRun (fun f => F (8 * h + f)) (fun f => Ef (6 * f + z0)) z)), (5, .int ((mSum (fun f => Ef (6 * f + z0)) z) + (Ef (6 * z + z0)))), (0, .ref (y 0)), (1, .int (nI h)), (2, .int (nI z0)), (3, .int (nI (6 * h + z0))), (4, .int (T (6 * h + z0) - Se z0)), (7, .int (qWa gp gi (T (6 * h + z0)) (Se z0) (qEr (T (6 * h + z0)) (Su (6 * h + z0)) (Se z0)))), (8, .int (nI z))]) hx hb dX3_demands_150 hl (by decide) rfl (fun ls hl => ?_)
        refine lv_iinc (v := nI (z + 1)) (lv' := [(8, .int (nI (z + 1))), (6, .int (mRun (fun f => F (8 * h + f)) (fun f => Ef (6 * f + z0)) z)), (5, .int ((mSum (fun f => Ef (6 * f + z0)) z) + (Ef (6 * z + z0)))), (0, .ref (y 0)), (1, .int (nI h)), (2, .int (nI z0)), (3, .int (nI (6 * h + z0))), (4, .int (T (6 * h + z0) - Se z0)), (7, .int (qWa gp gi (T (6 * h + z0)) (Se z0) (qEr (T (6 * h + z0)) (Su (6 * h + z0)) (Se z0))))]) hx hb dX3_demands_152 hl (k := 8) rfl (k_inc _) (by decide) rfl (fun ls hl => ?_)
        refine lv_goto (tgt := 92) hx hb dX3_demands_155 (by decide) ?_
        exact ih (z + 1) (by omega) H locs hP hD hS ls (by rw [mRun_f (fun f => F (8 * h + f)) (fun f => Ef (6 * f + z0)) z c1]; exact (lv_sub hl [3, 4, 5, 6, 7, 2, 1, 8, 0] rfl))
  exact lp 8 0 rfl H locs hP hD hS ls (lv_sub hl [6, 7, 8, 5, 4, 3, 2, 1, 0] rfl)

abbrev rmX3_commands : Room := { frames := 1, cells := 0, slots := 0, locals := 22 }
set_option maxHeartbeats 4000000 in
set_option maxRecDepth 100000 in
/-- commands -/
theorem c_X3_commands (l : Launch) (D : va_G) (cI cZ cO cJ : ClassId) (y : Nat → Nat) (Lo Se Ef : Nat → Int32) (gp gi am li : Int32) (dl : Nat) (ck : Nat → Nat) (T Su Dm F Sp C Ho : Nat → Int32) (th : Int32) (h f0 : Nat) (sz : Nat) (hh : h < 2) (hf0 : f0 < 8) (hc : ck h < 2 ^ 30) : kMv l yX3_commands wsX3_commands rmX3_commands D (kT cI cZ cO cJ) [.ref (y 0), .int (nI h), .int (nI f0)] (wM cI cZ y Lo Se Ef gp gi am li dl ck T Su Dm F Sp C Ho th) (wM cI cZ y Lo Se Ef gp gi am li dl ck T Su Dm F Sp (upd C (9 * (8 * h + f0) + ck h % 9) (qG1 h Ef Dm f0)) Ho th) sz := by
  refine kEnter (cc := cX3_commands) (maxL := 6) (ret := none) (by decide +kernel) rfl (Nat.le_of_ble_eq_true rfl) ?_
  intro p e s m below meth c args hx hb hr hml hts hown hlocks hin hK hN A hA9 Q hQ9 hP hD hsz hS hA ls hl
  have hl : lv_has ls 6 [(0, .ref (y 0)), (1, .int (nI h)), (2, .int (nI f0))] := hl
  have hi_X3 : ∀ w ∈ u_ws RX3 TX3 17, w ∈ wsX3_commands := by decide +kernel
  obtain ⟨H, hH9⟩ : ∃ H, H = s.heap := ⟨_, rfl⟩
  rw [← hH9] at hP ⊢
  have hS : va_S A s.heap H [] := by rw [hH9]; exact va_S.rf
  refine lv_iconst (v := nI 0) hx hb dX3_commands_0 (by decide +kernel) ?_
  refine lv_istore_n (lv' := [(3, .int (nI 0)), (0, .ref (y 0)), (1, .int (nI h)), (2, .int (nI f0))]) hx hb dX3_commands_1 rfl hl (by decide) rfl (fun ls hl => ?_)
  refine lv_iconst (v := nI 0) hx hb dX3_commands_2 (by decide +kernel) ?_
  refine lv_istore (lv' := [(4, .int (nI 0)), (3, .int (nI 0)), (0, .ref (y 0)), (1, .int (nI h)), (2, .int (nI f0))]) hx hb dX3_commands_3 hl (by decide) rfl (fun ls hl => ?_)
  have lp : ∀ (n z : Nat), z + n = 6 → ∀ (H : Heap) (locs : List Loc), va_P D vwCl (wM cI cZ y Lo Se Ef gp gi am li dl ck T Su Dm F Sp C Ho th) H → va_D A (wM cI cZ y Lo Se Ef gp gi am li dl ck T Su Dm F Sp C Ho th) → va_S A s.heap H locs → ∀ ls : Array Slot, lv_has ls 6 [(0, .ref (y 0)), (1, .int (nI h)), (2, .int (nI f0)), (3, .int (qGd (fun z => Ef (6 * f0 + z)) (fun z => Dm (6 * h + z)) z)), (4, .int (nI z))] → W p l e rmX3_commands s m args below meth c H locs 0 0 Q (F0 m 5 ls []) := by
    intro n
    induction n with
    | zero =>
      intro z hz H locs hP hD hS ls hl
      have hz9 : z = 6 := by omega
      subst hz9
      have hm9 : ck h % 9 < 9 := Nat.mod_lt _ (by decide)
      refine lv_iload hx hb dX3_commands_5 (lv_at hl 4 rfl) ?_
      refine lv_bipush (v := nI 6) hx hb dX3_commands_7 (by decide +kernel) ?_
      refine lv_icmp_ge (tgt := 78) hx hb dX3_commands_9 (by decide) (fun _ => ?_) (fun c9 => absurd (by decide +kernel) c9)
      refine lv_aload_n hx hb dX3_commands_78 rfl (lv_at hl 0 rfl) ?_
      refine va_get (D := D) (ci := 3) (v := .ref (y 10)) (C := RX3) (T := TX3) (N := 17) hx hb hts hi_X3 hown hK hP 0 rfl rfl 14 (by decide) (hts (.fieldLink RX3 54 "ColdaisleModel" "commands" "[I") (by decide +kernel)) (fun _ h9 => h9) rfl dX3_commands_79 ?_
      refine lv_iload_n hx hb dX3_commands_82 rfl (lv_at hl 1 rfl) ?_
      refine lv_iload_n hx hb dX3_commands_83 rfl (lv_at hl 2 rfl) ?_
      refine lv_aload_n hx hb dX3_commands_84 rfl (lv_at hl 0 rfl) ?_
      refine va_get (D := D) (ci := 3) (v := .ref (y 4)) (C := RX3) (T := TX3) (N := 17) hx hb hts hi_X3 hown hK hP 0 rfl rfl 8 (by decide) (hts (.fieldLink RX3 35 "ColdaisleModel" "clocks" "[I") (by decide +kernel)) (fun _ h9 => h9) rfl dX3_commands_85 ?_
      refine lv_iload_n hx hb dX3_commands_88 rfl (lv_at hl 1 rfl) ?_
      refine k_iald hx hb hK hP 4 0 rfl rfl (i := h) (by omega) (by decide) dX3_commands_89 ?_
      refine k_as rfl ?_
      refine kCall_i (W0 := []) (W1 := []) hP hD hS hA [] rfl rfl (va_runS (As := [.int (nI h), .int (nI f0), .int (nI (ck h))]) (rest := [.ref (y 10)]) ⟨hx, hb, hml, hown, hts⟩ (c_X3_commandAt l D cI cZ cO cJ h f0 (ck h) H.size (by omega)) (va_cwS (rm := rmX3_commandAt) 3 hts gX3_commands_X3_commandAt rfl rfl rfl (by decide +kernel) ⟨Nat.le_of_ble_eq_true rfl, Nat.le_of_ble_eq_true rfl⟩) (kPreS hK hN hP hD [] rfl rfl) rfl rfl hl.1 rfl (lv_room (Nat.le_of_ble_eq_true rfl)) dX3_commands_90 ⟨Nat.zero_le _, Nat.zero_le _⟩) (fun H locs hP hD hS => ?_)
      have hP : va_P D vwCl (wM cI cZ y Lo Se Ef gp gi am li dl ck T Su Dm F Sp C Ho th) H := hP
      have hD : va_D A (wM cI cZ y Lo Se Ef gp gi am li dl ck T Su Dm F Sp C Ho th) := hD
      refine lv_iload_n hx hb dX3_commands_93 rfl (lv_at hl 3 rfl) ?_
      refine k_iast hx hb hK hP hD hS 10 0 rfl rfl (i := 9 * (8 * h + f0) + (ck h) % 9) (x := qGd (fun z => Ef (6 * f0 + z)) (fun z => Dm (6 * h + z)) 6) (by omega) (by decide) dX3_commands_94 (fun H locs hP hD hS => ?_)
      have hP : va_P D vwCl (wM cI cZ y Lo Se Ef gp gi am li dl ck T Su Dm F Sp (upd C (9 * (8 * h + f0) + (ck h) % 9) (qGd (fun z => Ef (6 * f0 + z)) (fun z => Dm (6 * h + z)) 6)) Ho th) H := hP
      have hD : va_D A (wM cI cZ y Lo Se Ef gp gi am li dl ck T Su Dm F Sp (upd C (9 * (8 * h + f0) + (ck h) % 9) (qGd (fun z => Ef (6 * f0 + z)) (fun z => Dm (6 * h + z)) 6)) Ho th) := hD
      subst hQ9
      subst hA9
      exact kRet_v hx hb hr hlocks hP hS dX3_commands_95
    | succ n ih =>
      intro z hz H locs hP hD hS ls hl
      have hzb : z < 6 := by omega
      refine lv_iload hx hb dX3_commands_5 (lv_at hl 4 rfl) ?_
      refine lv_bipush (v := nI 6) hx hb dX3_commands_7 (by decide +kernel) ?_
      refine lv_icmp_ge (tgt := 78) hx hb dX3_commands_9 (by decide) (fun c9 => absurd c9 (nI_ge hzb (by decide))) (fun _ => ?_)
      refine lv_aload_n hx hb dX3_commands_12 rfl (lv_at hl 0 rfl) ?_
      refine va_get (D := D) (ci := 3) (v := .ref (y 3)) (C := RX3) (T := TX3) (N := 17) hx hb hts hi_X3 hown hK hP 0 rfl rfl 2 (by decide) (hts (.fieldLink RX3 16 "ColdaisleModel" "effects" "[I") (by decide +kernel)) (fun _ h9 => h9) rfl dX3_commands_13 ?_
      refine lv_bipush (v := nI 6) hx hb dX3_commands_16 (by decide +kernel) ?_
      refine lv_iload_n hx hb dX3_commands_18 rfl (lv_at hl 2 rfl) ?_
      refine lv_imul hx hb dX3_commands_19 ?_
      refine k_as (pk_mul _ _) ?_
      refine lv_iload hx hb dX3_commands_20 (lv_at hl 4 rfl) ?_
      refine lv_iadd hx hb dX3_commands_22 ?_
      refine k_as (nI_add _ _) ?_
      refine k_iald hx hb hK hP 3 0 rfl rfl (i := 6 * f0 + z) (by omega) (by decide) dX3_commands_23 ?_
      refine lv_if_le (tgt := 47) hx hb dX3_commands_24 (by decide) (fun c1 => ?_) (fun c1 => ?_)
      · refine lv_iconst (v := nI 0) hx hb dX3_commands_47 (by decide +kernel) ?_
        refine lv_istore (lv' := [(5, .int (nI 0)), (0, .ref (y 0)), (1, .int (nI h)), (2, .int (nI f0)), (3, .int (qGd (fun z => Ef (6 * f0 + z)) (fun z => Dm (6 * h + z)) z)), (4, .int (nI z))]) hx hb dX3_commands_48 hl (by decide) rfl (fun ls hl => ?_)
        refine lv_iload hx hb dX3_commands_50 (lv_at hl 0 rfl) ?_
        refine lv_if_eq (tgt := 70) hx hb dX3_commands_52 (by decide) (fun _ => ?_) (fun c9 => absurd (by decide +kernel) c9)
        refine lv_iload_n hx hb dX3_commands_70 rfl (lv_at hl 4 rfl) ?_
        refine lv_istore_n (lv' := [(3, .int (qGd (fun z => Ef (6 * f0 + z)) (fun z => Dm (6 * h + z)) z)), (5, .int (nI 0)), (0, .ref (y 0)), (1, .int (nI h)), (2, .int (nI f0)), (4, .int (nI z))]) hx hb dX3_commands_71 rfl hl (by decide) rfl (fun ls hl => ?_)
        refine lv_iinc (v := nI (z + 1)) (lv' := [(4, .int (nI (z + 1))), (3, .int (qGd (fun z => Ef (6 * f0 + z)) (fun z => Dm (6 * h + z)) z)), (5, .int (nI 0)), (0, .ref (y 0)), (1, .int (nI h)), (2, .int (nI f0))]) hx hb dX3_commands_72 hl (k := 5) rfl (k_inc _) (by decide) rfl (fun ls hl => ?_)
        refine lv_goto (tgt := 5) hx hb dX3_commands_75 (by decide) ?_
        exact ih (z + 1) (by omega) H locs hP hD hS ls (by rw [qGd_a (fun z => Ef (6 * f0 + z)) (fun z => Dm (6 * h + z)) z c1]; exact (lv_sub hl [3, 4, 5, 1, 0] rfl))
      · refine lv_aload_n hx hb dX3_commands_27 rfl (lv_at hl 0 rfl) ?_
        refine va_get (D := D) (ci := 3) (v := .ref (y 7)) (C := RX3) (T := TX3) (N := 17) hx hb hts hi_X3 hown hK hP 0 rfl rfl 11 (by decide) (hts (.fieldLink RX3 44 "ColdaisleModel" "demands" "[I") (by decide +kernel)) (fun _ h9 => h9) rfl dX3_commands_28 ?_
        refine lv_bipush (v := nI 6) hx hb dX3_commands_31 (by decide +kernel) ?_
        refine lv_iload_n hx hb dX3_commands_33 rfl (lv_at hl 1 rfl) ?_
        refine lv_imul hx hb dX3_commands_34 ?_
        refine k_as (pk_mul _ _) ?_
        refine lv_iload hx hb dX3_commands_35 (lv_at hl 4 rfl) ?_
        refine lv_iadd hx hb dX3_commands_37 ?_
        refine k_as (nI_add _ _) ?_
        refine k_iald hx hb hK hP 7 0 rfl rfl (i := 6 * h + z) (by omega) (by decide) dX3_commands_38 ?_
        refine lv_iload_n hx hb dX3_commands_39 rfl (lv_at hl 3 rfl) ?_
        refine lv_icmp_le (tgt := 47) hx hb dX3_commands_40 (by decide) (fun c2 => ?_) (fun c2 => ?_)
        · refine lv_iconst (v := nI 0) hx hb dX3_commands_47 (by decide +kernel) ?_
          refine lv_istore (lv' := [(5, .int (nI 0)), (0, .ref (y 0)), (1, .int (nI h)), (2, .int (nI f0)), (3, .int (qGd (fun z => Ef (6 * f0 + z)) (fun z => Dm (6 * h + z)) z)), (4, .int (nI z))]) hx hb dX3_commands_48 hl (by decide) rfl (fun ls hl => ?_)
          refine lv_iload hx hb dX3_commands_50 (lv_at hl 0 rfl) ?_
          refine lv_if_eq (tgt := 70) hx hb dX3_commands_52 (by decide) (fun _ => ?_) (fun c9 => absurd (by decide +kernel) c9)
          refine lv_iload_n hx hb dX3_commands_70 rfl (lv_at hl 4 rfl) ?_
          refine lv_istore_n (lv' := [(3, .int (qGd (fun z => Ef (6 * f0 + z)) (fun z => Dm (6 * h + z)) z)), (5, .int (nI 0)), (0, .ref (y 0)), (1, .int (nI h)), (2, .int (nI f0)), (4, .int (nI z))]) hx hb dX3_commands_71 rfl hl (by decide) rfl (fun ls hl => ?_)
          refine lv_iinc (v := nI (z + 1)) (lv' := [(4, .int (nI (z + 1))), (3, .int (qGd (fun z => Ef (6 * f0 + z)) (fun z => Dm (6 * h + z)) z)), (5, .int (nI 0)), (0, .ref (y 0)), (1, .int (nI h)), (2, .int (nI f0))]) hx hb dX3_commands_72 hl (k := 5) rfl (k_inc _) (by decide) rfl (fun ls hl => ?_)
          refine lv_goto (tgt := 5) hx hb dX3_commands_75 (by decide) ?_
          exact ih (z + 1) (by omega) H locs hP hD hS ls (by rw [qGd_b (fun z => Ef (6 * f0 + z)) (fun z => Dm (6 * h + z)) z c1 c2]; exact (lv_sub hl [3, 4, 5, 1, 0] rfl))
        · refine lv_iconst (v := nI 1) hx hb dX3_commands_43 (by decide +kernel) ?_
          refine lv_goto (tgt := 48) hx hb dX3_commands_44 (by decide) ?_
          refine lv_istore (lv' := [(5, .int (nI 1)), (0, .ref (y 0)), (1, .int (nI h)), (2, .int (nI f0)), (3, .int (qGd (fun z => Ef (6 * f0 + z)) (fun z => Dm (6 * h + z)) z)), (4, .int (nI z))]) hx hb dX3_commands_48 hl (by decide) rfl (fun ls hl => ?_)
          refine lv_iload hx hb dX3_commands_50 (lv_at hl 0 rfl) ?_
          refine lv_if_eq (tgt := 70) hx hb dX3_commands_52 (by decide) (fun c9 => absurd c9 (by decide +kernel)) (fun _ => ?_)
          refine lv_aload_n hx hb dX3_commands_55 rfl (lv_at hl 1 rfl) ?_
          refine va_get (D := D) (ci := 3) (v := .ref (y 7)) (C := RX3) (T := TX3) (N := 17) hx hb hts hi_X3 hown hK hP 0 rfl rfl 11 (by decide) (hts (.fieldLink RX3 44 "ColdaisleModel" "demands" "[I") (by decide +kernel)) (fun _ h9 => h9) rfl dX3_commands_56 ?_
          refine lv_bipush (v := nI 6) hx hb dX3_commands_59 (by decide +kernel) ?_
          refine lv_iload_n hx hb dX3_commands_61 rfl (lv_at hl 2 rfl) ?_
          refine lv_imul hx hb dX3_commands_62 ?_
          refine k_as (pk_mul _ _) ?_
          refine lv_iload hx hb dX3_commands_63 (lv_at hl 5 rfl) ?_
          refine lv_iadd hx hb dX3_commands_65 ?_
          refine k_as (nI_add _ _) ?_
          refine k_iald hx hb hK hP 7 0 rfl rfl (i := 6 * h + z) (by omega) (by decide) dX3_commands_66 ?_
          refine lv_goto (tgt := 71) hx hb dX3_commands_67 (by decide) ?_
          refine lv_istore_n (lv' := [(3, .int (Dm (6 * h + z))), (5, .int (nI 1)), (0, .ref (y 0)), (1, .int (nI h)), (2, .int (nI f0)), (4, .int (nI z))]) hx hb dX3_commands_71 rfl hl (by decide) rfl (fun ls hl => ?_)
          refine lv_iinc (v := nI (z + 1)) (lv' := [(4, .int (nI (z + 1))), (3, .int (Dm (6 * h + z))), (5, .int (nI 1)), (0, .ref (y 0)), (1, .int (nI h)), (2, .int (nI f0))]) hx hb dX3_commands_72 hl (k := 5) rfl (k_inc _) (by decide) rfl (fun ls hl => ?_)
          refine lv_goto (tgt := 5) hx hb dX3_commands_75 (by decide) ?_
          exact ih (z + 1) (by omega) H locs hP hD hS ls (by rw [qGd_c (fun z => Ef (6 * f0 + z)) (fun z => Dm (6 * h + z)) z c1 c2]; exact (lv_sub hl [3, 4, 5, 1, 0] rfl))
  exact lp 6 0 rfl H [] hP hD hS ls (lv_sub hl [2, 3, 4, 1, 0] rfl)

abbrev rmX3_speeds : Room := { frames := 1, cells := 0, slots := 0, locals := 22 }
set_option maxHeartbeats 4000000 in
set_option maxRecDepth 100000 in
/-- speeds -/
theorem c_X3_speeds (l : Launch) (D : va_G) (cI cZ cO cJ : ClassId) (y : Nat → Nat) (Lo Se Ef : Nat → Int32) (gp gi am li : Int32) (dl : Nat) (ck : Nat → Nat) (T Su Dm F Sp C Ho : Nat → Int32) (th : Int32) (h f0 : Nat) (sz : Nat) (hh : h < 2) (hf0 : f0 < 8) (hc : ck h < 2 ^ 30) (h9 : dl < 9) : kMv l yX3_speeds wsX3_speeds rmX3_speeds D (kT cI cZ cO cJ) [.ref (y 0), .int (nI h), .int (nI f0)] (wM cI cZ y Lo Se Ef gp gi am li dl ck T Su Dm F Sp C Ho th) (wM cI cZ y Lo Se Ef gp gi am li dl ck T Su Dm F (upd Sp (8 * h + f0) (qSp dl (ck h) (F (8 * h + f0)) C (9 * (8 * h + f0)))) C Ho th) sz := by
  refine kEnter (cc := cX3_speeds) (maxL := 5) (ret := none) (by decide +kernel) rfl (Nat.le_of_ble_eq_true rfl) ?_
  intro p e s m below meth c args hx hb hr hml hts hown hlocks hin hK hN A hA9 Q hQ9 hP hD hsz hS hA ls hl
  have hl : lv_has ls 5 [(0, .ref (y 0)), (1, .int (nI h)), (2, .int (nI f0))] := hl
  have hi_X3 : ∀ w ∈ u_ws RX3 TX3 17, w ∈ wsX3_speeds := by decide +kernel
  obtain ⟨H, hH9⟩ : ∃ H, H = s.heap := ⟨_, rfl⟩
  rw [← hH9] at hP ⊢
  have hS : va_S A s.heap H [] := by rw [hH9]; exact va_S.rf
  refine lv_aload_n hx hb dX3_speeds_0 rfl (lv_at hl 0 rfl) ?_
  refine va_get (D := D) (ci := 3) (v := .ref (y 4)) (C := RX3) (T := TX3) (N := 17) hx hb hts hi_X3 hown hK hP 0 rfl rfl 8 (by decide) (hts (.fieldLink RX3 35 "ColdaisleModel" "clocks" "[I") (by decide +kernel)) (fun _ h9 => h9) rfl dX3_speeds_1 ?_
  refine lv_iload_n hx hb dX3_speeds_4 rfl (lv_at hl 1 rfl) ?_
  refine k_iald hx hb hK hP 4 0 rfl rfl (i := h) (by omega) (by decide) dX3_speeds_5 ?_
  refine k_as rfl ?_
  refine lv_aload_n hx hb dX3_speeds_6 rfl (lv_at hl 0 rfl) ?_
  refine va_get (D := D) (ci := 3) (v := .int (nI dl)) (C := RX3) (T := TX3) (N := 17) hx hb hts hi_X3 hown hK hP 0 rfl rfl 7 (by decide) (hts (.fieldLink RX3 32 "ColdaisleModel" "delay" "I") (by decide +kernel)) (fun _ h9 => h9) rfl dX3_speeds_7 ?_
  refine lv_isub hx hb dX3_speeds_10 ?_
  by_cases hd9 : dl ≤ ck h
  · refine k_as (pk_sub hd9) ?_
    have hm9 : (ck h - dl) % 9 < 9 := Nat.mod_lt _ (by decide)
    refine lv_istore_n (lv' := [(3, .int (nI (ck h - dl))), (0, .ref (y 0)), (1, .int (nI h)), (2, .int (nI f0))]) hx hb dX3_speeds_11 rfl hl (by decide) rfl (fun ls hl => ?_)
    refine lv_iload_n hx hb dX3_speeds_12 rfl (lv_at hl 0 rfl) ?_
    refine lv_if_lt (tgt := 34) hx hb dX3_speeds_13 (by decide) (fun c9 => absurd c9 (nI_pos (by omega))) (fun _ => ?_)
    refine lv_aload_n hx hb dX3_speeds_16 rfl (lv_at hl 1 rfl) ?_
    refine va_get (D := D) (ci := 3) (v := .ref (y 8)) (C := RX3) (T := TX3) (N := 17) hx hb hts hi_X3 hown hK hP 0 rfl rfl 12 (by decide) (hts (.fieldLink RX3 47 "ColdaisleModel" "hasFailed" "[Z") (by decide +kernel)) (fun _ h9 => h9) rfl dX3_speeds_17 ?_
    refine lv_bipush (v := nI 8) hx hb dX3_speeds_20 (by decide +kernel) ?_
    refine lv_iload_n hx hb dX3_speeds_22 rfl (lv_at hl 2 rfl) ?_
    refine lv_imul hx hb dX3_speeds_23 ?_
    refine k_as (pk_mul _ _) ?_
    refine lv_iload_n hx hb dX3_speeds_24 rfl (lv_at hl 3 rfl) ?_
    refine lv_iadd hx hb dX3_speeds_25 ?_
    refine k_as (nI_add _ _) ?_
    refine k_zald hx hb hK hP 8 1 rfl rfl (i := 8 * h + f0) (by omega) (by decide) dX3_speeds_26 ?_
    refine lv_if_ne (tgt := 34) hx hb dX3_speeds_27 (by decide) (fun c1 => ?_) (fun c1 => ?_)
    · refine lv_iconst (v := nI 0) hx hb dX3_speeds_34 (by decide +kernel) ?_
      refine lv_istore (lv' := [(4, .int (nI 0)), (3, .int (nI (ck h - dl))), (0, .ref (y 0)), (1, .int (nI h)), (2, .int (nI f0))]) hx hb dX3_speeds_35 hl (by decide) rfl (fun ls hl => ?_)
      refine lv_aload_n hx hb dX3_speeds_37 rfl (lv_at hl 2 rfl) ?_
      refine va_get (D := D) (ci := 3) (v := .ref (y 9)) (C := RX3) (T := TX3) (N := 17) hx hb hts hi_X3 hown hK hP 0 rfl rfl 13 (by decide) (hts (.fieldLink RX3 51 "ColdaisleModel" "speeds" "[I") (by decide +kernel)) (fun _ h9 => h9) rfl dX3_speeds_38 ?_
      refine lv_bipush (v := nI 8) hx hb dX3_speeds_41 (by decide +kernel) ?_
      refine lv_iload_n hx hb dX3_speeds_43 rfl (lv_at hl 3 rfl) ?_
      refine lv_imul hx hb dX3_speeds_44 ?_
      refine k_as (pk_mul _ _) ?_
      refine lv_iload_n hx hb dX3_speeds_45 rfl (lv_at hl 4 rfl) ?_
      refine lv_iadd hx hb dX3_speeds_46 ?_
      refine k_as (nI_add _ _) ?_
      refine lv_iload hx hb dX3_speeds_47 (lv_at hl 0 rfl) ?_
      refine lv_if_eq (tgt := 66) hx hb dX3_speeds_49 (by decide) (fun _ => ?_) (fun c9 => absurd (by decide +kernel) c9)
      refine lv_iconst (v := nI 0) hx hb dX3_speeds_66 (by decide +kernel) ?_
      refine k_as (y := qSp dl (ck h) (F (8 * h + f0)) C (9 * (8 * h + f0))) (Eq.symm (by unfold qSp; rw [if_pos hd9, if_neg c1])) ?_
      refine k_iast hx hb hK hP hD hS 9 0 rfl rfl (i := 8 * h + f0) (x := qSp dl (ck h) (F (8 * h + f0)) C (9 * (8 * h + f0))) (by omega) (by decide) dX3_speeds_67 (fun H locs hP hD hS => ?_)
      have hP : va_P D vwCl (wM cI cZ y Lo Se Ef gp gi am li dl ck T Su Dm F (upd Sp (8 * h + f0) (qSp dl (ck h) (F (8 * h + f0)) C (9 * (8 * h + f0)))) C Ho th) H := hP
      have hD : va_D A (wM cI cZ y Lo Se Ef gp gi am li dl ck T Su Dm F (upd Sp (8 * h + f0) (qSp dl (ck h) (F (8 * h + f0)) C (9 * (8 * h + f0)))) C Ho th) := hD
      subst hQ9
      subst hA9
      exact kRet_v hx hb hr hlocks hP hS dX3_speeds_68
    · refine lv_iconst (v := nI 1) hx hb dX3_speeds_30 (by decide +kernel) ?_
      refine lv_goto (tgt := 35) hx hb dX3_speeds_31 (by decide) ?_
      refine lv_istore (lv' := [(4, .int (nI 1)), (3, .int (nI (ck h - dl))), (0, .ref (y 0)), (1, .int (nI h)), (2, .int (nI f0))]) hx hb dX3_speeds_35 hl (by decide) rfl (fun ls hl => ?_)
      refine lv_aload_n hx hb dX3_speeds_37 rfl (lv_at hl 2 rfl) ?_
      refine va_get (D := D) (ci := 3) (v := .ref (y 9)) (C := RX3) (T := TX3) (N := 17) hx hb hts hi_X3 hown hK hP 0 rfl rfl 13 (by decide) (hts (.fieldLink RX3 51 "ColdaisleModel" "speeds" "[I") (by decide +kernel)) (fun _ h9 => h9) rfl dX3_speeds_38 ?_
      refine lv_bipush (v := nI 8) hx hb dX3_speeds_41 (by decide +kernel) ?_
      refine lv_iload_n hx hb dX3_speeds_43 rfl (lv_at hl 3 rfl) ?_
      refine lv_imul hx hb dX3_speeds_44 ?_
      refine k_as (pk_mul _ _) ?_
      refine lv_iload_n hx hb dX3_speeds_45 rfl (lv_at hl 4 rfl) ?_
      refine lv_iadd hx hb dX3_speeds_46 ?_
      refine k_as (nI_add _ _) ?_
      refine lv_iload hx hb dX3_speeds_47 (lv_at hl 0 rfl) ?_
      refine lv_if_eq (tgt := 66) hx hb dX3_speeds_49 (by decide) (fun c9 => absurd c9 (by decide +kernel)) (fun _ => ?_)
      refine lv_aload_n hx hb dX3_speeds_52 rfl (lv_at hl 2 rfl) ?_
      refine va_get (D := D) (ci := 3) (v := .ref (y 10)) (C := RX3) (T := TX3) (N := 17) hx hb hts hi_X3 hown hK hP 0 rfl rfl 14 (by decide) (hts (.fieldLink RX3 54 "ColdaisleModel" "commands" "[I") (by decide +kernel)) (fun _ h9 => h9) rfl dX3_speeds_53 ?_
      refine lv_iload_n hx hb dX3_speeds_56 rfl (lv_at hl 3 rfl) ?_
      refine lv_iload_n hx hb dX3_speeds_57 rfl (lv_at hl 4 rfl) ?_
      refine lv_iload_n hx hb dX3_speeds_58 rfl (lv_at hl 1 rfl) ?_
      refine kCall_i (W0 := []) (W1 := []) hP hD hS hA [] rfl rfl (va_runS (As := [.int (nI h), .int (nI f0), .int (nI (ck h - dl))]) (rest := [.ref (y 10), .int (nI (8 * h + f0)), .ref (y 9)]) ⟨hx, hb, hml, hown, hts⟩ (c_X3_commandAt l D cI cZ cO cJ h f0 (ck h - dl) H.size (by omega)) (va_cwS (rm := rmX3_commandAt) 3 hts gX3_speeds_X3_commandAt rfl rfl rfl (by decide +kernel) ⟨Nat.le_of_ble_eq_true rfl, Nat.le_of_ble_eq_true rfl⟩) (kPreS hK hN hP hD [] rfl rfl) rfl rfl hl.1 rfl (lv_room (Nat.le_of_ble_eq_true rfl)) dX3_speeds_59 ⟨Nat.zero_le _, Nat.zero_le _⟩) (fun H locs hP hD hS => ?_)
      have hP : va_P D vwCl (wM cI cZ y Lo Se Ef gp gi am li dl ck T Su Dm F Sp C Ho th) H := hP
      have hD : va_D A (wM cI cZ y Lo Se Ef gp gi am li dl ck T Su Dm F Sp C Ho th) := hD
      refine k_iald hx hb hK hP 10 0 rfl rfl (i := 9 * (8 * h + f0) + (ck h - dl) % 9) (by omega) (by decide) dX3_speeds_62 ?_
      refine lv_goto (tgt := 67) hx hb dX3_speeds_63 (by decide) ?_
      refine k_as (y := qSp dl (ck h) (F (8 * h + f0)) C (9 * (8 * h + f0))) (Eq.symm (by unfold qSp; rw [if_pos hd9, if_pos c1])) ?_
      refine k_iast hx hb hK hP hD hS 9 0 rfl rfl (i := 8 * h + f0) (x := qSp dl (ck h) (F (8 * h + f0)) C (9 * (8 * h + f0))) (by omega) (by decide) dX3_speeds_67 (fun H locs hP hD hS => ?_)
      have hP : va_P D vwCl (wM cI cZ y Lo Se Ef gp gi am li dl ck T Su Dm F (upd Sp (8 * h + f0) (qSp dl (ck h) (F (8 * h + f0)) C (9 * (8 * h + f0)))) C Ho th) H := hP
      have hD : va_D A (wM cI cZ y Lo Se Ef gp gi am li dl ck T Su Dm F (upd Sp (8 * h + f0) (qSp dl (ck h) (F (8 * h + f0)) C (9 * (8 * h + f0)))) C Ho th) := hD
      subst hQ9
      subst hA9
      exact kRet_v hx hb hr hlocks hP hS dX3_speeds_68
  · refine lv_istore_n (lv' := [(3, .int ((nI (ck h)) - (nI dl))), (0, .ref (y 0)), (1, .int (nI h)), (2, .int (nI f0))]) hx hb dX3_speeds_11 rfl hl (by decide) rfl (fun ls hl => ?_)
    refine lv_iload_n hx hb dX3_speeds_12 rfl (lv_at hl 0 rfl) ?_
    refine lv_if_lt (tgt := 34) hx hb dX3_speeds_13 (by decide) (fun _ => ?_) (fun c9 => absurd (pk_sneg (by omega) (by omega)) c9)
    refine lv_iconst (v := nI 0) hx hb dX3_speeds_34 (by decide +kernel) ?_
    refine lv_istore (lv' := [(4, .int (nI 0)), (3, .int ((nI (ck h)) - (nI dl))), (0, .ref (y 0)), (1, .int (nI h)), (2, .int (nI f0))]) hx hb dX3_speeds_35 hl (by decide) rfl (fun ls hl => ?_)
    refine lv_aload_n hx hb dX3_speeds_37 rfl (lv_at hl 2 rfl) ?_
    refine va_get (D := D) (ci := 3) (v := .ref (y 9)) (C := RX3) (T := TX3) (N := 17) hx hb hts hi_X3 hown hK hP 0 rfl rfl 13 (by decide) (hts (.fieldLink RX3 51 "ColdaisleModel" "speeds" "[I") (by decide +kernel)) (fun _ h9 => h9) rfl dX3_speeds_38 ?_
    refine lv_bipush (v := nI 8) hx hb dX3_speeds_41 (by decide +kernel) ?_
    refine lv_iload_n hx hb dX3_speeds_43 rfl (lv_at hl 3 rfl) ?_
    refine lv_imul hx hb dX3_speeds_44 ?_
    refine k_as (pk_mul _ _) ?_
    refine lv_iload_n hx hb dX3_speeds_45 rfl (lv_at hl 4 rfl) ?_
    refine lv_iadd hx hb dX3_speeds_46 ?_
    refine k_as (nI_add _ _) ?_
    refine lv_iload hx hb dX3_speeds_47 (lv_at hl 0 rfl) ?_
    refine lv_if_eq (tgt := 66) hx hb dX3_speeds_49 (by decide) (fun _ => ?_) (fun c9 => absurd (by decide +kernel) c9)
    refine lv_iconst (v := nI 0) hx hb dX3_speeds_66 (by decide +kernel) ?_
    refine k_as (y := qSp dl (ck h) (F (8 * h + f0)) C (9 * (8 * h + f0))) (Eq.symm (by unfold qSp; rw [if_neg hd9])) ?_
    refine k_iast hx hb hK hP hD hS 9 0 rfl rfl (i := 8 * h + f0) (x := qSp dl (ck h) (F (8 * h + f0)) C (9 * (8 * h + f0))) (by omega) (by decide) dX3_speeds_67 (fun H locs hP hD hS => ?_)
    have hP : va_P D vwCl (wM cI cZ y Lo Se Ef gp gi am li dl ck T Su Dm F (upd Sp (8 * h + f0) (qSp dl (ck h) (F (8 * h + f0)) C (9 * (8 * h + f0)))) C Ho th) H := hP
    have hD : va_D A (wM cI cZ y Lo Se Ef gp gi am li dl ck T Su Dm F (upd Sp (8 * h + f0) (qSp dl (ck h) (F (8 * h + f0)) C (9 * (8 * h + f0)))) C Ho th) := hD
    subst hQ9
    subst hA9
    exact kRet_v hx hb hr hlocks hP hS dX3_speeds_68

abbrev rmX3_heats : Room := { frames := 1, cells := 0, slots := 0, locals := 21 }
set_option maxHeartbeats 4000000 in
set_option maxRecDepth 100000 in
/-- heats -/
theorem c_X3_heats (l : Launch) (D : va_G) (cI cZ cO cJ : ClassId) (y : Nat → Nat) (Lo Se Ef : Nat → Int32) (gp gi am li : Int32) (dl : Nat) (ck : Nat → Nat) (T Su Dm F Sp C Ho : Nat → Int32) (th : Int32) (h z0 : Nat) (sz : Nat) (hh : h < 2) (hz0 : z0 < 6) : kMv l yX3_heats wsX3_heats rmX3_heats D (kT cI cZ cO cJ) [.ref (y 0), .int (nI h), .int (nI z0)] (wM cI cZ y Lo Se Ef gp gi am li dl ck T Su Dm F Sp C Ho th) (wM cI cZ y Lo Se Ef gp gi am li dl ck (upd T (6 * h + z0) (qTn (T (6 * h + z0)) (Lo z0) am (qCo h Ef Sp z0 8))) Su Dm F Sp C Ho th) sz := by
  refine kEnter (cc := cX3_heats) (maxL := 6) (ret := none) (by decide +kernel) rfl (Nat.le_of_ble_eq_true rfl) ?_
  intro p e s m below meth c args hx hb hr hml hts hown hlocks hin hK hN A hA9 Q hQ9 hP hD hsz hS hA ls hl
  have hl : lv_has ls 6 [(0, .ref (y 0)), (1, .int (nI h)), (2, .int (nI z0))] := hl
  have hi_X3 : ∀ w ∈ u_ws RX3 TX3 17, w ∈ wsX3_heats := by decide +kernel
  obtain ⟨H, hH9⟩ : ∃ H, H = s.heap := ⟨_, rfl⟩
  rw [← hH9] at hP ⊢
  have hS : va_S A s.heap H [] := by rw [hH9]; exact va_S.rf
  refine lv_bipush (v := nI 6) hx hb dX3_heats_0 (by decide +kernel) ?_
  refine lv_iload_n hx hb dX3_heats_2 rfl (lv_at hl 1 rfl) ?_
  refine lv_imul hx hb dX3_heats_3 ?_
  refine k_as (pk_mul _ _) ?_
  refine lv_iload_n hx hb dX3_heats_4 rfl (lv_at hl 2 rfl) ?_
  refine lv_iadd hx hb dX3_heats_5 ?_
  refine k_as (nI_add _ _) ?_
  refine lv_istore_n (lv' := [(3, .int (nI (6 * h + z0))), (0, .ref (y 0)), (1, .int (nI h)), (2, .int (nI z0))]) hx hb dX3_heats_6 rfl hl (by decide) rfl (fun ls hl => ?_)
  refine lv_iconst (v := nI 0) hx hb dX3_heats_7 (by decide +kernel) ?_
  refine lv_istore (lv' := [(4, .int (nI 0)), (3, .int (nI (6 * h + z0))), (0, .ref (y 0)), (1, .int (nI h)), (2, .int (nI z0))]) hx hb dX3_heats_8 hl (by decide) rfl (fun ls hl => ?_)
  refine lv_iconst (v := nI 0) hx hb dX3_heats_10 (by decide +kernel) ?_
  refine lv_istore (lv' := [(5, .int (nI 0)), (4, .int (nI 0)), (3, .int (nI (6 * h + z0))), (0, .ref (y 0)), (1, .int (nI h)), (2, .int (nI z0))]) hx hb dX3_heats_11 hl (by decide) rfl (fun ls hl => ?_)
  have lp : ∀ (n z : Nat), z + n = 8 → ∀ (H : Heap) (locs : List Loc), va_P D vwCl (wM cI cZ y Lo Se Ef gp gi am li dl ck T Su Dm F Sp C Ho th) H → va_D A (wM cI cZ y Lo Se Ef gp gi am li dl ck T Su Dm F Sp C Ho th) → va_S A s.heap H locs → ∀ ls : Array Slot, lv_has ls 6 [(0, .ref (y 0)), (1, .int (nI h)), (2, .int (nI z0)), (3, .int (nI (6 * h + z0))), (4, .int (qCo h Ef Sp z0 z)), (5, .int (nI z))] → W p l e rmX3_heats s m args below meth c H locs 0 0 Q (F0 m 13 ls []) := by
    intro n
    induction n with
    | zero =>
      intro z hz H locs hP hD hS ls hl
      have hz9 : z = 8 := by omega
      subst hz9
      refine lv_iload hx hb dX3_heats_13 (lv_at hl 5 rfl) ?_
      refine lv_bipush (v := nI 8) hx hb dX3_heats_15 (by decide +kernel) ?_
      refine lv_icmp_ge (tgt := 56) hx hb dX3_heats_17 (by decide) (fun _ => ?_) (fun c9 => absurd (by decide +kernel) c9)
      refine lv_aload_n hx hb dX3_heats_56 rfl (lv_at hl 0 rfl) ?_
      refine va_get (D := D) (ci := 3) (v := .ref (y 5)) (C := RX3) (T := TX3) (N := 17) hx hb hts hi_X3 hown hK hP 0 rfl rfl 9 (by decide) (hts (.fieldLink RX3 38 "ColdaisleModel" "temperatures" "[I") (by decide +kernel)) (fun _ h9 => h9) rfl dX3_heats_57 ?_
      refine lv_iload_n hx hb dX3_heats_60 rfl (lv_at hl 3 rfl) ?_
      refine lv_dup2_11 hx hb dX3_heats_61 rfl rfl ?_
      refine k_iald hx hb hK hP 5 0 rfl rfl (i := 6 * h + z0) (by omega) (by decide) dX3_heats_62 ?_
      refine lv_aload_n hx hb dX3_heats_63 rfl (lv_at hl 0 rfl) ?_
      refine va_get (D := D) (ci := 3) (v := .ref (y 1)) (C := RX3) (T := TX3) (N := 17) hx hb hts hi_X3 hown hK hP 0 rfl rfl 0 (by decide) (hts (.fieldLink RX3 7 "ColdaisleModel" "loads" "[I") (by decide +kernel)) (fun _ h9 => h9) rfl dX3_heats_64 ?_
      refine lv_iload_n hx hb dX3_heats_67 rfl (lv_at hl 2 rfl) ?_
      refine k_iald hx hb hK hP 1 0 rfl rfl (i := z0) (by omega) (by decide) dX3_heats_68 ?_
      refine lv_aload_n hx hb dX3_heats_69 rfl (lv_at hl 0 rfl) ?_
      refine va_get (D := D) (ci := 3) (v := .int am) (C := RX3) (T := TX3) (N := 17) hx hb hts hi_X3 hown hK hP 0 rfl rfl 5 (by decide) (hts (.fieldLink RX3 26 "ColdaisleModel" "ambient" "I") (by decide +kernel)) (fun _ h9 => h9) rfl dX3_heats_70 ?_
      refine lv_aload_n hx hb dX3_heats_73 rfl (lv_at hl 0 rfl) ?_
      refine va_get (D := D) (ci := 3) (v := .ref (y 5)) (C := RX3) (T := TX3) (N := 17) hx hb hts hi_X3 hown hK hP 0 rfl rfl 9 (by decide) (hts (.fieldLink RX3 38 "ColdaisleModel" "temperatures" "[I") (by decide +kernel)) (fun _ h9 => h9) rfl dX3_heats_74 ?_
      refine lv_iload_n hx hb dX3_heats_77 rfl (lv_at hl 3 rfl) ?_
      refine k_iald hx hb hK hP 5 0 rfl rfl (i := 6 * h + z0) (by omega) (by decide) dX3_heats_78 ?_
      refine lv_isub hx hb dX3_heats_79 ?_
      refine lv_bipush (v := nI 64) hx hb dX3_heats_80 (by decide +kernel) ?_
      refine kCall_i (W0 := []) (W1 := []) hP hD hS hA [] rfl rfl (va_runS (As := [.int (am - (T (6 * h + z0))), .int (nI 64)]) (rest := [.int (Lo z0), .int (T (6 * h + z0)), .int (nI (6 * h + z0)), .ref (y 5)]) ⟨hx, hb, hml, hown, hts⟩ (c_X3_part l D cI cZ cO cJ (am - (T (6 * h + z0))) (nI 64) H.size (by decide +kernel)) (va_cwS (rm := rmX3_part) 2 hts gX3_heats_X3_part rfl rfl rfl (by decide +kernel) ⟨Nat.le_of_ble_eq_true rfl, Nat.le_of_ble_eq_true rfl⟩) (kPreS hK hN hP hD [] rfl rfl) rfl rfl hl.1 rfl (lv_room (Nat.le_of_ble_eq_true rfl)) dX3_heats_82 ⟨Nat.zero_le _, Nat.zero_le _⟩) (fun H locs hP hD hS => ?_)
      have hP : va_P D vwCl (wM cI cZ y Lo Se Ef gp gi am li dl ck T Su Dm F Sp C Ho th) H := hP
      have hD : va_D A (wM cI cZ y Lo Se Ef gp gi am li dl ck T Su Dm F Sp C Ho th) := hD
      refine lv_iadd hx hb dX3_heats_85 ?_
      refine lv_iload hx hb dX3_heats_86 (lv_at hl 4 rfl) ?_
      refine lv_bipush (v := nI 100) hx hb dX3_heats_88 (by decide +kernel) ?_
      refine lv_idiv hx hb dX3_heats_90 (by decide +kernel) ?_
      refine lv_isub hx hb dX3_heats_91 ?_
      refine lv_iadd hx hb dX3_heats_92 ?_
      refine k_iast hx hb hK hP hD hS 5 0 rfl rfl (i := 6 * h + z0) (x := (T (6 * h + z0)) + (((Lo z0) + (qPart (am - (T (6 * h + z0))) (nI 64))) - ((qCo h Ef Sp z0 8) / (nI 100)))) (by omega) (by decide) dX3_heats_93 (fun H locs hP hD hS => ?_)
      have hP : va_P D vwCl (wM cI cZ y Lo Se Ef gp gi am li dl ck (upd T (6 * h + z0) ((T (6 * h + z0)) + (((Lo z0) + (qPart (am - (T (6 * h + z0))) (nI 64))) - ((qCo h Ef Sp z0 8) / (nI 100))))) Su Dm F Sp C Ho th) H := hP
      have hD : va_D A (wM cI cZ y Lo Se Ef gp gi am li dl ck (upd T (6 * h + z0) ((T (6 * h + z0)) + (((Lo z0) + (qPart (am - (T (6 * h + z0))) (nI 64))) - ((qCo h Ef Sp z0 8) / (nI 100))))) Su Dm F Sp C Ho th) := hD
      subst hQ9
      subst hA9
      exact kRet_v hx hb hr hlocks hP hS dX3_heats_94
    | succ n ih =>
      intro z hz H locs hP hD hS ls hl
      have hzb : z < 8 := by omega
      refine lv_iload hx hb dX3_heats_13 (lv_at hl 5 rfl) ?_
      refine lv_bipush (v := nI 8) hx hb dX3_heats_15 (by decide +kernel) ?_
      refine lv_icmp_ge (tgt := 56) hx hb dX3_heats_17 (by decide) (fun c9 => absurd c9 (nI_ge hzb (by decide))) (fun _ => ?_)
      refine lv_iload hx hb dX3_heats_20 (lv_at hl 4 rfl) ?_
      refine lv_aload_n hx hb dX3_heats_22 rfl (lv_at hl 0 rfl) ?_
      refine va_get (D := D) (ci := 3) (v := .ref (y 3)) (C := RX3) (T := TX3) (N := 17) hx hb hts hi_X3 hown hK hP 0 rfl rfl 2 (by decide) (hts (.fieldLink RX3 16 "ColdaisleModel" "effects" "[I") (by decide +kernel)) (fun _ h9 => h9) rfl dX3_heats_23 ?_
      refine lv_bipush (v := nI 6) hx hb dX3_heats_26 (by decide +kernel) ?_
      refine lv_iload hx hb dX3_heats_28 (lv_at hl 5 rfl) ?_
      refine lv_imul hx hb dX3_heats_30 ?_
      refine k_as (pk_mul _ _) ?_
      refine lv_iload_n hx hb dX3_heats_31 rfl (lv_at hl 2 rfl) ?_
      refine lv_iadd hx hb dX3_heats_32 ?_
      refine k_as (nI_add _ _) ?_
      refine k_iald hx hb hK hP 3 0 rfl rfl (i := 6 * z + z0) (by omega) (by decide) dX3_heats_33 ?_
      refine lv_aload_n hx hb dX3_heats_34 rfl (lv_at hl 0 rfl) ?_
      refine va_get (D := D) (ci := 3) (v := .ref (y 9)) (C := RX3) (T := TX3) (N := 17) hx hb hts hi_X3 hown hK hP 0 rfl rfl 13 (by decide) (hts (.fieldLink RX3 51 "ColdaisleModel" "speeds" "[I") (by decide +kernel)) (fun _ h9 => h9) rfl dX3_heats_35 ?_
      refine lv_bipush (v := nI 8) hx hb dX3_heats_38 (by decide +kernel) ?_
      refine lv_iload_n hx hb dX3_heats_40 rfl (lv_at hl 1 rfl) ?_
      refine lv_imul hx hb dX3_heats_41 ?_
      refine k_as (pk_mul _ _) ?_
      refine lv_iload hx hb dX3_heats_42 (lv_at hl 5 rfl) ?_
      refine lv_iadd hx hb dX3_heats_44 ?_
      refine k_as (nI_add _ _) ?_
      refine k_iald hx hb hK hP 9 0 rfl rfl (i := 8 * h + z) (by omega) (by decide) dX3_heats_45 ?_
      refine lv_imul hx hb dX3_heats_46 ?_
      refine lv_iadd hx hb dX3_heats_47 ?_
      refine lv_istore (lv' := [(4, .int ((qCo h Ef Sp z0 z) + ((Ef (6 * z + z0)) * (Sp (8 * h + z))))), (0, .ref (y 0)), (1, .int (nI h)), (2, .int (nI z0)), (3, .int (nI (6 * h + z0))), (5, .int (nI z))]) hx hb dX3_heats_48 hl (by decide) rfl (fun ls hl => ?_)
      refine lv_iinc (v := nI (z + 1)) (lv' := [(5, .int (nI (z + 1))), (4, .int ((qCo h Ef Sp z0 z) + ((Ef (6 * z + z0)) * (Sp (8 * h + z))))), (0, .ref (y 0)), (1, .int (nI h)), (2, .int (nI z0)), (3, .int (nI (6 * h + z0)))]) hx hb dX3_heats_50 hl (k := 5) rfl (k_inc _) (by decide) rfl (fun ls hl => ?_)
      refine lv_goto (tgt := 13) hx hb dX3_heats_53 (by decide) ?_
      exact ih (z + 1) (by omega) H locs hP hD hS ls (lv_sub hl [2, 3, 4, 5, 1, 0] rfl)
  exact lp 8 0 rfl H [] hP hD hS ls (lv_sub hl [3, 4, 5, 2, 1, 0] rfl)

abbrev rmX3_minute : Room := { frames := 2, cells := 0, slots := 0, locals := 50 }
set_option maxHeartbeats 4000000 in
set_option maxRecDepth 100000 in
/-- minute -/
theorem c_X3_minute (l : Launch) (D : va_G) (cI cZ cO cJ : ClassId) (y : Nat → Nat) (Lo Se Ef : Nat → Int32) (gp gi am li : Int32) (dl : Nat) (ck : Nat → Nat) (T Su Dm F Sp C Ho : Nat → Int32) (th : Int32) (h : Nat) (sz : Nat) (hh : h < 2) (hc : ck h < 2 ^ 30) (h9 : dl < 9) : kMv l yX3_minute wsX3_minute rmX3_minute D (kT cI cZ cO cJ) [.ref (y 0), .int (nI h)] (wM cI cZ y Lo Se Ef gp gi am li dl ck T Su Dm F Sp C Ho th) (wM cI cZ y Lo Se Ef gp gi am li dl (va_up ck h (ck h + 1)) (qT h gp gi am T Su Dm Lo Se F Ef Sp ck C dl) (qSu h T Su Se) (qDm h gp gi T Su Dm Se F Ef) F (qS h gp gi T Su Dm Se F Ef Sp ck C dl) (qC h gp gi T Su Dm Se F Ef ck C) Ho th) sz := by
  refine kEnter (cc := cX3_minute) (maxL := 3) (ret := none) (by decide +kernel) rfl (Nat.le_of_ble_eq_true rfl) ?_
  intro p e s m below meth c args hx hb hr hml hts hown hlocks hin hK hN A hA9 Q hQ9 hP hD hsz hS hA ls hl
  have hl : lv_has ls 3 [(0, .ref (y 0)), (1, .int (nI h))] := hl
  have hi_X3 : ∀ w ∈ u_ws RX3 TX3 17, w ∈ wsX3_minute := by decide +kernel
  obtain ⟨H, hH9⟩ : ∃ H, H = s.heap := ⟨_, rfl⟩
  rw [← hH9] at hP ⊢
  have hS : va_S A s.heap H [] := by rw [hH9]; exact va_S.rf
  refine lv_iconst (v := nI 0) hx hb dX3_minute_0 (by decide +kernel) ?_
  refine lv_istore_n (lv' := [(2, .int (nI 0)), (0, .ref (y 0)), (1, .int (nI h))]) hx hb dX3_minute_1 rfl hl (by decide) rfl (fun ls hl => ?_)
  have l1 : ∀ (n z : Nat), z + n = 6 → ∀ (H : Heap) (locs : List Loc), va_P D vwCl (wM cI cZ y Lo Se Ef gp gi am li dl ck T (mFo (6 * h) z (qE1 h T Su Se) Su) (mFo (6 * h) z (qD1 h gp gi T Su Se F Ef) Dm) F Sp C Ho th) H → va_D A (wM cI cZ y Lo Se Ef gp gi am li dl ck T (mFo (6 * h) z (qE1 h T Su Se) Su) (mFo (6 * h) z (qD1 h gp gi T Su Se F Ef) Dm) F Sp C Ho th) → va_S A s.heap H locs → ∀ ls : Array Slot, lv_has ls 3 [(0, .ref (y 0)), (1, .int (nI h)), (2, .int (nI z))] → W p l e rmX3_minute s m args below meth c H locs 0 0 Q (F0 m 2 ls []) := by
    intro n
    induction n with
    | zero =>
      intro z hz H locs hP hD hS ls hl
      have hz9 : z = 6 := by omega
      subst hz9
      have hP : va_P D vwCl (wM cI cZ y Lo Se Ef gp gi am li dl ck T (qSu h T Su Se) (qDm h gp gi T Su Dm Se F Ef) F Sp C Ho th) H := hP
      have hD : va_D A (wM cI cZ y Lo Se Ef gp gi am li dl ck T (qSu h T Su Se) (qDm h gp gi T Su Dm Se F Ef) F Sp C Ho th) := hD
      refine lv_iload_n hx hb dX3_minute_2 rfl (lv_at hl 2 rfl) ?_
      refine lv_bipush (v := nI 6) hx hb dX3_minute_3 (by decide +kernel) ?_
      refine lv_icmp_ge (tgt := 20) hx hb dX3_minute_5 (by decide) (fun _ => ?_) (fun c9 => absurd (by decide +kernel) c9)
      refine lv_iconst (v := nI 0) hx hb dX3_minute_20 (by decide +kernel) ?_
      refine lv_istore_n (lv' := [(2, .int (nI 0)), (0, .ref (y 0)), (1, .int (nI h))]) hx hb dX3_minute_21 rfl hl (by decide) rfl (fun ls hl => ?_)
      have l2 : ∀ (n z : Nat), z + n = 8 → ∀ (H : Heap) (locs : List Loc), va_P D vwCl (wM cI cZ y Lo Se Ef gp gi am li dl ck T (qSu h T Su Se) (qDm h gp gi T Su Dm Se F Ef) F (mFo (8 * h) z (qS1 h Ef (qDm h gp gi T Su Dm Se F Ef) F ck C dl) Sp) (qCk h Ef (qDm h gp gi T Su Dm Se F Ef) ck C z) Ho th) H → va_D A (wM cI cZ y Lo Se Ef gp gi am li dl ck T (qSu h T Su Se) (qDm h gp gi T Su Dm Se F Ef) F (mFo (8 * h) z (qS1 h Ef (qDm h gp gi T Su Dm Se F Ef) F ck C dl) Sp) (qCk h Ef (qDm h gp gi T Su Dm Se F Ef) ck C z) Ho th) → va_S A s.heap H locs → ∀ ls : Array Slot, lv_has ls 3 [(0, .ref (y 0)), (1, .int (nI h)), (2, .int (nI z))] → W p l e rmX3_minute s m args below meth c H locs 0 0 Q (F0 m 22 ls []) := by
        intro n
        induction n with
        | zero =>
          intro z hz H locs hP hD hS ls hl
          have hz9 : z = 8 := by omega
          subst hz9
          refine lv_iload_n hx hb dX3_minute_22 rfl (lv_at hl 2 rfl) ?_
          refine lv_bipush (v := nI 8) hx hb dX3_minute_23 (by decide +kernel) ?_
          have hP : va_P D vwCl (wM cI cZ y Lo Se Ef gp gi am li dl ck T (qSu h T Su Se) (qDm h gp gi T Su Dm Se F Ef) F (qS h gp gi T Su Dm Se F Ef Sp ck C dl) (qC h gp gi T Su Dm Se F Ef ck C) Ho th) H := hP
          have hD : va_D A (wM cI cZ y Lo Se Ef gp gi am li dl ck T (qSu h T Su Se) (qDm h gp gi T Su Dm Se F Ef) F (qS h gp gi T Su Dm Se F Ef Sp ck C dl) (qC h gp gi T Su Dm Se F Ef ck C) Ho th) := hD
          refine lv_icmp_ge (tgt := 46) hx hb dX3_minute_25 (by decide) (fun _ => ?_) (fun c9 => absurd (by decide +kernel) c9)
          refine lv_iconst (v := nI 0) hx hb dX3_minute_46 (by decide +kernel) ?_
          refine lv_istore_n (lv' := [(2, .int (nI 0)), (0, .ref (y 0)), (1, .int (nI h))]) hx hb dX3_minute_47 rfl hl (by decide) rfl (fun ls hl => ?_)
          have l3 : ∀ (n z : Nat), z + n = 6 → ∀ (H : Heap) (locs : List Loc), va_P D vwCl (wM cI cZ y Lo Se Ef gp gi am li dl ck (mFo (6 * h) z (qT1 h am T Lo Ef (qS h gp gi T Su Dm Se F Ef Sp ck C dl)) T) (qSu h T Su Se) (qDm h gp gi T Su Dm Se F Ef) F (qS h gp gi T Su Dm Se F Ef Sp ck C dl) (qC h gp gi T Su Dm Se F Ef ck C) Ho th) H → va_D A (wM cI cZ y Lo Se Ef gp gi am li dl ck (mFo (6 * h) z (qT1 h am T Lo Ef (qS h gp gi T Su Dm Se F Ef Sp ck C dl)) T) (qSu h T Su Se) (qDm h gp gi T Su Dm Se F Ef) F (qS h gp gi T Su Dm Se F Ef Sp ck C dl) (qC h gp gi T Su Dm Se F Ef ck C) Ho th) → va_S A s.heap H locs → ∀ ls : Array Slot, lv_has ls 3 [(0, .ref (y 0)), (1, .int (nI h)), (2, .int (nI z))] → W p l e rmX3_minute s m args below meth c H locs 0 0 Q (F0 m 48 ls []) := by
            intro n
            induction n with
            | zero =>
              intro z hz H locs hP hD hS ls hl
              have hz9 : z = 6 := by omega
              subst hz9
              have hP : va_P D vwCl (wM cI cZ y Lo Se Ef gp gi am li dl ck (qT h gp gi am T Su Dm Lo Se F Ef Sp ck C dl) (qSu h T Su Se) (qDm h gp gi T Su Dm Se F Ef) F (qS h gp gi T Su Dm Se F Ef Sp ck C dl) (qC h gp gi T Su Dm Se F Ef ck C) Ho th) H := hP
              have hD : va_D A (wM cI cZ y Lo Se Ef gp gi am li dl ck (qT h gp gi am T Su Dm Lo Se F Ef Sp ck C dl) (qSu h T Su Se) (qDm h gp gi T Su Dm Se F Ef) F (qS h gp gi T Su Dm Se F Ef Sp ck C dl) (qC h gp gi T Su Dm Se F Ef ck C) Ho th) := hD
              refine lv_iload_n hx hb dX3_minute_48 rfl (lv_at hl 2 rfl) ?_
              refine lv_bipush (v := nI 6) hx hb dX3_minute_49 (by decide +kernel) ?_
              refine lv_icmp_ge (tgt := 66) hx hb dX3_minute_51 (by decide) (fun _ => ?_) (fun c9 => absurd (by decide +kernel) c9)
              refine lv_aload_n hx hb dX3_minute_66 rfl (lv_at hl 0 rfl) ?_
              refine va_get (D := D) (ci := 3) (v := .ref (y 4)) (C := RX3) (T := TX3) (N := 17) hx hb hts hi_X3 hown hK hP 0 rfl rfl 8 (by decide) (hts (.fieldLink RX3 35 "ColdaisleModel" "clocks" "[I") (by decide +kernel)) (fun _ h9 => h9) rfl dX3_minute_67 ?_
              refine lv_iload_n hx hb dX3_minute_70 rfl (lv_at hl 1 rfl) ?_
              refine lv_dup2_11 hx hb dX3_minute_71 rfl rfl ?_
              refine k_iald hx hb hK hP 4 0 rfl rfl (i := h) (by omega) (by decide) dX3_minute_72 ?_
              refine k_as rfl ?_
              refine lv_iconst (v := nI 1) hx hb dX3_minute_73 (by decide +kernel) ?_
              refine lv_iadd hx hb dX3_minute_74 ?_
              refine k_as (nI_add _ _) ?_
              refine k_iast hx hb hK hP hD hS 4 0 rfl rfl (i := h) (x := nI (ck h + 1)) (by omega) (by decide) dX3_minute_75 (fun H locs hP hD hS => ?_)
              rw [ck_up] at hP hD
              have hP : va_P D vwCl (wM cI cZ y Lo Se Ef gp gi am li dl (va_up ck h (ck h + 1)) (qT h gp gi am T Su Dm Lo Se F Ef Sp ck C dl) (qSu h T Su Se) (qDm h gp gi T Su Dm Se F Ef) F (qS h gp gi T Su Dm Se F Ef Sp ck C dl) (qC h gp gi T Su Dm Se F Ef ck C) Ho th) H := hP
              have hD : va_D A (wM cI cZ y Lo Se Ef gp gi am li dl (va_up ck h (ck h + 1)) (qT h gp gi am T Su Dm Lo Se F Ef Sp ck C dl) (qSu h T Su Se) (qDm h gp gi T Su Dm Se F Ef) F (qS h gp gi T Su Dm Se F Ef Sp ck C dl) (qC h gp gi T Su Dm Se F Ef ck C) Ho th) := hD
              subst hQ9
              subst hA9
              exact kRet_v hx hb hr hlocks hP hS dX3_minute_76
            | succ n ih =>
              intro z hz H locs hP hD hS ls hl
              have hzb : z < 6 := by omega
              refine lv_iload_n hx hb dX3_minute_48 rfl (lv_at hl 2 rfl) ?_
              refine lv_bipush (v := nI 6) hx hb dX3_minute_49 (by decide +kernel) ?_
              refine lv_icmp_ge (tgt := 66) hx hb dX3_minute_51 (by decide) (fun c9 => absurd c9 (nI_ge hzb (by decide))) (fun _ => ?_)
              refine lv_aload_n hx hb dX3_minute_54 rfl (lv_at hl 0 rfl) ?_
              refine lv_iload_n hx hb dX3_minute_55 rfl (lv_at hl 1 rfl) ?_
              refine lv_iload_n hx hb dX3_minute_56 rfl (lv_at hl 2 rfl) ?_
              have hc9 := c_X3_heats l D cI cZ cO cJ y Lo Se Ef gp gi am li dl ck (mFo (6 * h) z (qT1 h am T Lo Ef (qS h gp gi T Su Dm Se F Ef Sp ck C dl)) T) (qSu h T Su Se) (qDm h gp gi T Su Dm Se F Ef) F (qS h gp gi T Su Dm Se F Ef Sp ck C dl) (qC h gp gi T Su Dm Se F Ef ck C) Ho th h z H.size hh (by omega)
              rw [mFo_at (6 * h) z (qT1 h am T Lo Ef (qS h gp gi T Su Dm Se F Ef Sp ck C dl)) T] at hc9
              refine kCallW_v (W1 := wM cI cZ y Lo Se Ef gp gi am li dl ck (upd (mFo (6 * h) z (qT1 h am T Lo Ef (qS h gp gi T Su Dm Se F Ef Sp ck C dl)) T) (6 * h + z) (qTn (T (6 * h + z)) (Lo z) am (qCo h Ef (qS h gp gi T Su Dm Se F Ef Sp ck C dl) z 8))) (qSu h T Su Se) (qDm h gp gi T Su Dm Se F Ef) F (qS h gp gi T Su Dm Se F Ef Sp ck C dl) (qC h gp gi T Su Dm Se F Ef ck C) Ho th) hD hS hA rfl (va_runV (As := [.int (nI h), .int (nI z)]) (rest := []) ⟨hx, hb, hml, hown, hts⟩ (hc9) (cwV (rm := rmX3_heats) 2 hts gX3_minute_X3_heats rfl rfl rfl (by decide +kernel) ⟨Nat.le_of_ble_eq_true rfl, Nat.le_of_ble_eq_true rfl⟩) (kPreVW hK hN hP hD (va_recv hK hP (ci := 3) (q0 := 0) rfl rfl)) rfl rfl hl.1 rfl (lv_room (Nat.le_of_ble_eq_true rfl)) dX3_minute_57 ⟨Nat.zero_le _, Nat.zero_le _⟩) (fun H locs hP hD hS => ?_)
              have hP : va_P D vwCl (wM cI cZ y Lo Se Ef gp gi am li dl ck (mFo (6 * h) (z + 1) (qT1 h am T Lo Ef (qS h gp gi T Su Dm Se F Ef Sp ck C dl)) T) (qSu h T Su Se) (qDm h gp gi T Su Dm Se F Ef) F (qS h gp gi T Su Dm Se F Ef Sp ck C dl) (qC h gp gi T Su Dm Se F Ef ck C) Ho th) H := by rw [← mFo_up (6 * h) z (qT1 h am T Lo Ef (qS h gp gi T Su Dm Se F Ef Sp ck C dl)) T]; exact hP
              have hD : va_D A (wM cI cZ y Lo Se Ef gp gi am li dl ck (mFo (6 * h) (z + 1) (qT1 h am T Lo Ef (qS h gp gi T Su Dm Se F Ef Sp ck C dl)) T) (qSu h T Su Se) (qDm h gp gi T Su Dm Se F Ef) F (qS h gp gi T Su Dm Se F Ef Sp ck C dl) (qC h gp gi T Su Dm Se F Ef ck C) Ho th) := by rw [← mFo_up (6 * h) z (qT1 h am T Lo Ef (qS h gp gi T Su Dm Se F Ef Sp ck C dl)) T]; exact hD
              refine lv_iinc (v := nI (z + 1)) (lv' := [(2, .int (nI (z + 1))), (0, .ref (y 0)), (1, .int (nI h))]) hx hb dX3_minute_60 hl (k := 2) rfl (k_inc _) (by decide) rfl (fun ls hl => ?_)
              refine lv_goto (tgt := 48) hx hb dX3_minute_63 (by decide) ?_
              exact ih (z + 1) (by omega) H locs hP hD hS ls (lv_sub hl [1, 2, 0] rfl)
          exact l3 6 0 rfl H locs (by rw [mFo_0]; exact hP) (by rw [mFo_0]; exact hD) hS ls (lv_sub hl [1, 2, 0] rfl)
        | succ n ih =>
          intro z hz H locs hP hD hS ls hl
          have hzb : z < 8 := by omega
          refine lv_iload_n hx hb dX3_minute_22 rfl (lv_at hl 2 rfl) ?_
          refine lv_bipush (v := nI 8) hx hb dX3_minute_23 (by decide +kernel) ?_
          refine lv_icmp_ge (tgt := 46) hx hb dX3_minute_25 (by decide) (fun c9 => absurd c9 (nI_ge hzb (by decide))) (fun _ => ?_)
          refine lv_aload_n hx hb dX3_minute_28 rfl (lv_at hl 0 rfl) ?_
          refine lv_iload_n hx hb dX3_minute_29 rfl (lv_at hl 1 rfl) ?_
          refine lv_iload_n hx hb dX3_minute_30 rfl (lv_at hl 2 rfl) ?_
          refine kCallW_v (W1 := wM cI cZ y Lo Se Ef gp gi am li dl ck T (qSu h T Su Se) (qDm h gp gi T Su Dm Se F Ef) F (mFo (8 * h) z (qS1 h Ef (qDm h gp gi T Su Dm Se F Ef) F ck C dl) Sp) (upd (qCk h Ef (qDm h gp gi T Su Dm Se F Ef) ck C z) (9 * (8 * h + z) + ck h % 9) (qG1 h Ef (qDm h gp gi T Su Dm Se F Ef) z)) Ho th) hD hS hA rfl (va_runV (As := [.int (nI h), .int (nI z)]) (rest := []) ⟨hx, hb, hml, hown, hts⟩ (c_X3_commands l D cI cZ cO cJ y Lo Se Ef gp gi am li dl ck T (qSu h T Su Se) (qDm h gp gi T Su Dm Se F Ef) F (mFo (8 * h) z (qS1 h Ef (qDm h gp gi T Su Dm Se F Ef) F ck C dl) Sp) (qCk h Ef (qDm h gp gi T Su Dm Se F Ef) ck C z) Ho th h z H.size hh (by omega) hc) (cwV (rm := rmX3_commands) 2 hts gX3_minute_X3_commands rfl rfl rfl (by decide +kernel) ⟨Nat.le_of_ble_eq_true rfl, Nat.le_of_ble_eq_true rfl⟩) (kPreVW hK hN hP hD (va_recv hK hP (ci := 3) (q0 := 0) rfl rfl)) rfl rfl hl.1 rfl (lv_room (Nat.le_of_ble_eq_true rfl)) dX3_minute_31 ⟨Nat.zero_le _, Nat.zero_le _⟩) (fun H locs hP hD hS => ?_)
          have hP : va_P D vwCl (wM cI cZ y Lo Se Ef gp gi am li dl ck T (qSu h T Su Se) (qDm h gp gi T Su Dm Se F Ef) F (mFo (8 * h) z (qS1 h Ef (qDm h gp gi T Su Dm Se F Ef) F ck C dl) Sp) (qCk h Ef (qDm h gp gi T Su Dm Se F Ef) ck C (z + 1)) Ho th) H := hP
          have hD : va_D A (wM cI cZ y Lo Se Ef gp gi am li dl ck T (qSu h T Su Se) (qDm h gp gi T Su Dm Se F Ef) F (mFo (8 * h) z (qS1 h Ef (qDm h gp gi T Su Dm Se F Ef) F ck C dl) Sp) (qCk h Ef (qDm h gp gi T Su Dm Se F Ef) ck C (z + 1)) Ho th) := hD
          refine lv_aload_n hx hb dX3_minute_34 rfl (lv_at hl 0 rfl) ?_
          refine lv_iload_n hx hb dX3_minute_35 rfl (lv_at hl 1 rfl) ?_
          refine lv_iload_n hx hb dX3_minute_36 rfl (lv_at hl 2 rfl) ?_
          refine kCallW_v (W1 := wM cI cZ y Lo Se Ef gp gi am li dl ck T (qSu h T Su Se) (qDm h gp gi T Su Dm Se F Ef) F (upd (mFo (8 * h) z (qS1 h Ef (qDm h gp gi T Su Dm Se F Ef) F ck C dl) Sp) (8 * h + z) (qSp dl (ck h) (F (8 * h + z)) (qCk h Ef (qDm h gp gi T Su Dm Se F Ef) ck C (z + 1)) (9 * (8 * h + z)))) (qCk h Ef (qDm h gp gi T Su Dm Se F Ef) ck C (z + 1)) Ho th) hD hS hA rfl (va_runV (As := [.int (nI h), .int (nI z)]) (rest := []) ⟨hx, hb, hml, hown, hts⟩ (c_X3_speeds l D cI cZ cO cJ y Lo Se Ef gp gi am li dl ck T (qSu h T Su Se) (qDm h gp gi T Su Dm Se F Ef) F (mFo (8 * h) z (qS1 h Ef (qDm h gp gi T Su Dm Se F Ef) F ck C dl) Sp) (qCk h Ef (qDm h gp gi T Su Dm Se F Ef) ck C (z + 1)) Ho th h z H.size hh (by omega) hc h9) (cwV (rm := rmX3_speeds) 2 hts gX3_minute_X3_speeds rfl rfl rfl (by decide +kernel) ⟨Nat.le_of_ble_eq_true rfl, Nat.le_of_ble_eq_true rfl⟩) (kPreVW hK hN hP hD (va_recv hK hP (ci := 3) (q0 := 0) rfl rfl)) rfl rfl hl.1 rfl (lv_room (Nat.le_of_ble_eq_true rfl)) dX3_minute_37 ⟨Nat.zero_le _, Nat.zero_le _⟩) (fun H locs hP hD hS => ?_)
          have hP : va_P D vwCl (wM cI cZ y Lo Se Ef gp gi am li dl ck T (qSu h T Su Se) (qDm h gp gi T Su Dm Se F Ef) F (mFo (8 * h) (z + 1) (qS1 h Ef (qDm h gp gi T Su Dm Se F Ef) F ck C dl) Sp) (qCk h Ef (qDm h gp gi T Su Dm Se F Ef) ck C (z + 1)) Ho th) H := by rw [← mFo_up (8 * h) z (qS1 h Ef (qDm h gp gi T Su Dm Se F Ef) F ck C dl) Sp]; exact hP
          have hD : va_D A (wM cI cZ y Lo Se Ef gp gi am li dl ck T (qSu h T Su Se) (qDm h gp gi T Su Dm Se F Ef) F (mFo (8 * h) (z + 1) (qS1 h Ef (qDm h gp gi T Su Dm Se F Ef) F ck C dl) Sp) (qCk h Ef (qDm h gp gi T Su Dm Se F Ef) ck C (z + 1)) Ho th) := by rw [← mFo_up (8 * h) z (qS1 h Ef (qDm h gp gi T Su Dm Se F Ef) F ck C dl) Sp]; exact hD
          refine lv_iinc (v := nI (z + 1)) (lv' := [(2, .int (nI (z + 1))), (0, .ref (y 0)), (1, .int (nI h))]) hx hb dX3_minute_40 hl (k := 2) rfl (k_inc _) (by decide) rfl (fun ls hl => ?_)
          refine lv_goto (tgt := 22) hx hb dX3_minute_43 (by decide) ?_
          exact ih (z + 1) (by omega) H locs hP hD hS ls (lv_sub hl [1, 2, 0] rfl)
      exact l2 8 0 rfl H locs (by rw [mFo_0]; exact hP) (by rw [mFo_0]; exact hD) hS ls (lv_sub hl [1, 2, 0] rfl)
    | succ n ih =>
      intro z hz H locs hP hD hS ls hl
      have hzb : z < 6 := by omega
      refine lv_iload_n hx hb dX3_minute_2 rfl (lv_at hl 2 rfl) ?_
      refine lv_bipush (v := nI 6) hx hb dX3_minute_3 (by decide +kernel) ?_
      refine lv_icmp_ge (tgt := 20) hx hb dX3_minute_5 (by decide) (fun c9 => absurd c9 (nI_ge hzb (by decide))) (fun _ => ?_)
      refine lv_aload_n hx hb dX3_minute_8 rfl (lv_at hl 0 rfl) ?_
      refine lv_iload_n hx hb dX3_minute_9 rfl (lv_at hl 1 rfl) ?_
      refine lv_iload_n hx hb dX3_minute_10 rfl (lv_at hl 2 rfl) ?_
      have hc9 := c_X3_demands l D cI cZ cO cJ y Lo Se Ef gp gi am li dl ck T (mFo (6 * h) z (qE1 h T Su Se) Su) (mFo (6 * h) z (qD1 h gp gi T Su Se F Ef) Dm) F Sp C Ho th h z H.size hh (by omega)
      rw [mFo_at (6 * h) z (qE1 h T Su Se) Su] at hc9
      refine kCallW_v (W1 := wM cI cZ y Lo Se Ef gp gi am li dl ck T (upd (mFo (6 * h) z (qE1 h T Su Se) Su) (6 * h + z) (qEr (T (6 * h + z)) (Su (6 * h + z)) (Se z))) (upd (mFo (6 * h) z (qD1 h gp gi T Su Se F Ef) Dm) (6 * h + z) (qRa (fun f => F (8 * h + f)) (fun f => Ef (6 * f + z)) (qWa gp gi (T (6 * h + z)) (Se z) (qEr (T (6 * h + z)) (Su (6 * h + z)) (Se z))))) F Sp C Ho th) hD hS hA rfl (va_runV (As := [.int (nI h), .int (nI z)]) (rest := []) ⟨hx, hb, hml, hown, hts⟩ (hc9) (cwV (rm := rmX3_demands) 2 hts gX3_minute_X3_demands rfl rfl rfl (by decide +kernel) ⟨Nat.le_of_ble_eq_true rfl, Nat.le_of_ble_eq_true rfl⟩) (kPreVW hK hN hP hD (va_recv hK hP (ci := 3) (q0 := 0) rfl rfl)) rfl rfl hl.1 rfl (lv_room (Nat.le_of_ble_eq_true rfl)) dX3_minute_11 ⟨Nat.zero_le _, Nat.zero_le _⟩) (fun H locs hP hD hS => ?_)
      have hP : va_P D vwCl (wM cI cZ y Lo Se Ef gp gi am li dl ck T (mFo (6 * h) (z + 1) (qE1 h T Su Se) Su) (mFo (6 * h) (z + 1) (qD1 h gp gi T Su Se F Ef) Dm) F Sp C Ho th) H := by rw [← mFo_up (6 * h) z (qE1 h T Su Se) Su, ← mFo_up (6 * h) z (qD1 h gp gi T Su Se F Ef) Dm]; exact hP
      have hD : va_D A (wM cI cZ y Lo Se Ef gp gi am li dl ck T (mFo (6 * h) (z + 1) (qE1 h T Su Se) Su) (mFo (6 * h) (z + 1) (qD1 h gp gi T Su Se F Ef) Dm) F Sp C Ho th) := by rw [← mFo_up (6 * h) z (qE1 h T Su Se) Su, ← mFo_up (6 * h) z (qD1 h gp gi T Su Se F Ef) Dm]; exact hD
      refine lv_iinc (v := nI (z + 1)) (lv' := [(2, .int (nI (z + 1))), (0, .ref (y 0)), (1, .int (nI h))]) hx hb dX3_minute_14 hl (k := 2) rfl (k_inc _) (by decide) rfl (fun ls hl => ?_)
      refine lv_goto (tgt := 2) hx hb dX3_minute_17 (by decide) ?_
      exact ih (z + 1) (by omega) H locs hP hD hS ls (lv_sub hl [1, 2, 0] rfl)
  exact l1 6 0 rfl H [] (by rw [mFo_0, mFo_0]; exact hP) (by rw [mFo_0, mFo_0]; exact hD) hS ls (lv_sub hl [1, 2, 0] rfl)

