abbrev rmX1_init : Room := { frames := 1, cells := 11, slots := 68, locals := 40 }
set_option maxHeartbeats 8000000 in
set_option maxRecDepth 100000 in
/-- a new X1 -/
theorem c_X1_init (l : Launch) (D : va_G) (cI cZ cO cJ : ClassId) (h0 sz : Nat) : kMC l yX1_init wsX1_init rmX1_init D (kT cI cZ cO cJ) [.ref h0] ([(h0, .inr (1, [.null, .null, .null, .int 0, .int 0, .int 0, .int 0, .int 0]))]) (fun u => wS cI cO u (fun _ => nI 0) (mFl 6 (fun _ => nI 2200) (fun _ => nI 0)) (iEf 6) (nI 20) (nI 10) (nI 2500) (nI 2700) 2) (fun u => u 0 = h0) 11 68 sz := by
  refine kEnterC (cc := cX1_init) (maxL := 3) (ret := none) (by decide +kernel) rfl (Nat.le_of_ble_eq_true rfl) ?_
  intro p e s m below meth c args hx hb hr hml hts hown hlocks hin hK hN hO A hA9 Q hQ9 hP hD hsz hS hA ls hl
  have hl : lv_has ls 3 [(0, .ref h0)] := hl
  have hi_X1 : ∀ w ∈ u_ws RX1 TX1 8, w ∈ wsX1_init := by decide +kernel
  obtain ⟨H, hH9⟩ : ∃ H, H = s.heap := ⟨_, rfl⟩
  rw [← hH9] at hP ⊢
  have hS : va_S A s.heap H [] := by rw [hH9]; exact va_S.rf
  refine lv_aload_n hx hb dX1_init_0 rfl (lv_at hl 0 rfl) ?_
  refine W.objInit hx hb hown (hts (.methodLink RX1 3 objectInit) (by decide +kernel)) (hts (.instanceMethod objectInit) (by decide +kernel)) (hts (.code objectInit ⟨#[0xb1]⟩ 1 none) (by decide +kernel)) rfl (by rw [hml]; exact hl.1) rfl dX1_init_1 (Nat.le_of_ble_eq_true rfl) (Nat.le_of_ble_eq_true rfl) ?_
  refine W.eq (g2 := F0 m 4 ls []) rfl ?_
  refine lv_aload_n hx hb dX1_init_4 rfl (lv_at hl 0 rfl) ?_
  refine lv_bipush (v := nI 6) hx hb dX1_init_5 (by decide +kernel) ?_
  refine k_newa hx hb (atype := .int) (hts (.arrayClass .int) (by decide +kernel)) .int rfl rfl hK 0 rfl hP hD hS hA 6 (by decide) (a0 := (6, .inl (fun _ => nI 0))) (fun _ => rfl) (by decide) (Nat.le_of_ble_eq_true rfl) (Nat.le_of_ble_eq_true rfl) dX1_init_7 (fun q7 H hP hD hS => ?_)
  have hP : va_P D vwCl ([(h0, .inr (1, [.null, .null, .null, .int 0, .int 0, .int 0, .int 0, .int 0])), (q7, .inl (cI, 6, .inl (fun _ => nI 0)))]) H := hP
  have hD : va_D A ([(h0, .inr (1, [.null, .null, .null, .int 0, .int 0, .int 0, .int 0, .int 0])), (q7, .inl (cI, 6, .inl (fun _ => nI 0)))]) := hD
  refine W.widen (k := 1) (n := 6) (by decide) (by decide) ?_
  refine va_putF (D := D) (ci := 1) (v := .ref q7) (ty := tyX1 0) (C := RX1) (T := TX1) (N := 8) hx hb hts hi_X1 tyX1 tyX1_ok nmX1 hown hK hP hD hS 0 rfl rfl 0 (by decide) (hts (.fieldLink RX1 9 "Coldaisle$Settings" "load" "[I") (by decide +kernel)) (fun _ h9 => h9) rfl hin rfl (by decide +kernel) rfl rfl (Nat.le_of_ble_eq_true rfl) dX1_init_9 (fun H locs hP hD hS => ?_)
  have hP : va_P D vwCl ([(h0, .inr (1, [.ref q7, .null, .null, .int 0, .int 0, .int 0, .int 0, .int 0])), (q7, .inl (cI, 6, .inl (fun _ => nI 0)))]) H := hP
  have hD : va_D A ([(h0, .inr (1, [.ref q7, .null, .null, .int 0, .int 0, .int 0, .int 0, .int 0])), (q7, .inl (cI, 6, .inl (fun _ => nI 0)))]) := hD
  refine lv_aload_n hx hb dX1_init_12 rfl (lv_at hl 0 rfl) ?_
  refine lv_bipush (v := nI 6) hx hb dX1_init_13 (by decide +kernel) ?_
  refine k_newa hx hb (atype := .int) (hts (.arrayClass .int) (by decide +kernel)) .int rfl rfl hK 0 rfl hP hD hS hA 6 (by decide) (a0 := (6, .inl (fun _ => nI 0))) (fun _ => rfl) (by decide) (Nat.le_of_ble_eq_true rfl) (Nat.le_of_ble_eq_true rfl) dX1_init_15 (fun q15 H hP hD hS => ?_)
  have hP : va_P D vwCl ([(h0, .inr (1, [.ref q7, .null, .null, .int 0, .int 0, .int 0, .int 0, .int 0])), (q7, .inl (cI, 6, .inl (fun _ => nI 0))), (q15, .inl (cI, 6, .inl (fun _ => nI 0)))]) H := hP
  have hD : va_D A ([(h0, .inr (1, [.ref q7, .null, .null, .int 0, .int 0, .int 0, .int 0, .int 0])), (q7, .inl (cI, 6, .inl (fun _ => nI 0))), (q15, .inl (cI, 6, .inl (fun _ => nI 0)))]) := hD
  refine W.widen (k := 2) (n := 12) (by decide) (by decide) ?_
  refine va_putF (D := D) (ci := 1) (v := .ref q15) (ty := tyX1 1) (C := RX1) (T := TX1) (N := 8) hx hb hts hi_X1 tyX1 tyX1_ok nmX1 hown hK hP hD hS 0 rfl rfl 1 (by decide) (hts (.fieldLink RX1 15 "Coldaisle$Settings" "setpoint" "[I") (by decide +kernel)) (fun _ h9 => h9) rfl hin rfl (by decide +kernel) rfl rfl (Nat.le_of_ble_eq_true rfl) dX1_init_17 (fun H locs hP hD hS => ?_)
  have hP : va_P D vwCl ([(h0, .inr (1, [.ref q7, .ref q15, .null, .int 0, .int 0, .int 0, .int 0, .int 0])), (q7, .inl (cI, 6, .inl (fun _ => nI 0))), (q15, .inl (cI, 6, .inl (fun _ => nI 0)))]) H := hP
  have hD : va_D A ([(h0, .inr (1, [.ref q7, .ref q15, .null, .int 0, .int 0, .int 0, .int 0, .int 0])), (q7, .inl (cI, 6, .inl (fun _ => nI 0))), (q15, .inl (cI, 6, .inl (fun _ => nI 0)))]) := hD
  refine lv_aload_n hx hb dX1_init_20 rfl (lv_at hl 0 rfl) ?_
  refine lv_bipush (v := nI 8) hx hb dX1_init_21 (by decide +kernel) ?_
  refine lv_bipush (v := nI 6) hx hb dX1_init_23 (by decide +kernel) ?_
  refine k_mna hx hb hown (hts (.classLink RX1 18 "[[I") (by decide +kernel)) hO (hts (.arrayClass .int) (by decide +kernel)) hK 0 2 rfl rfl hP hD hS hA 8 6 (by decide) (by decide) (Nat.le_of_ble_eq_true rfl) (Nat.le_of_ble_eq_true rfl) dX1_init_25 (fun q25 r25 H hP hD hS => ?_)
  have hP : va_P D vwCl ([(h0, .inr (1, [.ref q7, .ref q15, .null, .int 0, .int 0, .int 0, .int 0, .int 0])), (q7, .inl (cI, 6, .inl (fun _ => nI 0))), (q15, .inl (cI, 6, .inl (fun _ => nI 0))), (q25, .inl (cO, 8, .inr (.inr (.inr (.inr (fun i => some (r25 i)))))))] ++ (rws cI 6 8 r25 (fun _ _ => nI 0) ++ [])) H := hP
  have hD : va_D A ([(h0, .inr (1, [.ref q7, .ref q15, .null, .int 0, .int 0, .int 0, .int 0, .int 0])), (q7, .inl (cI, 6, .inl (fun _ => nI 0))), (q15, .inl (cI, 6, .inl (fun _ => nI 0))), (q25, .inl (cO, 8, .inr (.inr (.inr (.inr (fun i => some (r25 i)))))))] ++ (rws cI 6 8 r25 (fun _ _ => nI 0) ++ [])) := hD
  refine W.widen (k := 11) (n := 68) (by decide) (by decide) ?_
  refine va_putF (D := D) (ci := 1) (v := .ref q25) (ty := tyX1 2) (C := RX1) (T := TX1) (N := 8) hx hb hts hi_X1 tyX1 tyX1_ok nmX1 hown hK hP hD hS 0 rfl rfl 2 (by decide) (hts (.fieldLink RX1 20 "Coldaisle$Settings" "effect" "[[I") (by decide +kernel)) (fun _ h9 => h9) rfl hin rfl (by decide +kernel) rfl rfl (Nat.le_of_ble_eq_true rfl) dX1_init_29 (fun H locs hP hD hS => ?_)
  have hP : va_P D vwCl ([(h0, .inr (1, [.ref q7, .ref q15, .ref q25, .int 0, .int 0, .int 0, .int 0, .int 0])), (q7, .inl (cI, 6, .inl (fun _ => nI 0))), (q15, .inl (cI, 6, .inl (fun _ => nI 0))), (q25, .inl (cO, 8, .inr (.inr (.inr (.inr (fun i => some (r25 i)))))))] ++ (rws cI 6 8 r25 (fun _ _ => nI 0) ++ [])) H := hP
  have hD : va_D A ([(h0, .inr (1, [.ref q7, .ref q15, .ref q25, .int 0, .int 0, .int 0, .int 0, .int 0])), (q7, .inl (cI, 6, .inl (fun _ => nI 0))), (q15, .inl (cI, 6, .inl (fun _ => nI 0))), (q25, .inl (cO, 8, .inr (.inr (.inr (.inr (fun i => some (r25 i)))))))] ++ (rws cI 6 8 r25 (fun _ _ => nI 0) ++ [])) := hD
  refine lv_iconst (v := nI 0) hx hb dX1_init_32 (by decide +kernel) ?_
  refine lv_istore_n (lv' := [(1, .int (nI 0)), (0, .ref h0)]) hx hb dX1_init_33 rfl hl (by decide) rfl (fun ls hl => ?_)
  have lp : ∀ (n z : Nat), z + n = 6 → ∀ (H : Heap) (locs : List Loc), va_P D vwCl ([(h0, .inr (1, [.ref q7, .ref q15, .ref q25, .int 0, .int 0, .int 0, .int 0, .int 0])), (q7, .inl (cI, 6, .inl (fun _ => nI 0))), (q15, .inl (cI, 6, .inl (mFl z (fun _ => nI 2200) (fun _ => nI 0)))), (q25, .inl (cO, 8, .inr (.inr (.inr (.inr (fun i => some (r25 i)))))))] ++ (rws cI 6 8 r25 (iEf z) ++ [])) H → va_D A ([(h0, .inr (1, [.ref q7, .ref q15, .ref q25, .int 0, .int 0, .int 0, .int 0, .int 0])), (q7, .inl (cI, 6, .inl (fun _ => nI 0))), (q15, .inl (cI, 6, .inl (mFl z (fun _ => nI 2200) (fun _ => nI 0)))), (q25, .inl (cO, 8, .inr (.inr (.inr (.inr (fun i => some (r25 i)))))))] ++ (rws cI 6 8 r25 (iEf z) ++ [])) → va_S A s.heap H locs → ∀ ls : Array Slot, lv_has ls 3 [(0, .ref h0), (1, .int (nI z))] → W p l e rmX1_init s m args below meth c H locs 11 68 Q (F0 m 34 ls []) := by
    intro n
    induction n with
    | zero =>
      intro z hz H locs hP hD hS ls hl
      have hz9 : z = 6 := by omega
      subst hz9
      refine lv_iload_n hx hb dX1_init_34 rfl (lv_at hl 1 rfl) ?_
      refine lv_bipush (v := nI 6) hx hb dX1_init_35 (by decide +kernel) ?_
      refine lv_icmp_ge (tgt := 90) hx hb dX1_init_37 (by decide) (fun _ => ?_) (fun c9 => absurd (nI_le (Nat.le_refl 6) (by decide)) c9)
      refine lv_aload_n hx hb dX1_init_90 rfl (lv_at hl 0 rfl) ?_
      refine lv_bipush (v := nI 20) hx hb dX1_init_91 (by decide +kernel) ?_
      refine va_put (D := D) (ci := 1) (v := .int (nI 20)) (ty := tyX1 3) (C := RX1) (T := TX1) (N := 8) hx hb hts hi_X1 tyX1 tyX1_ok nmX1 hown hK hP hD hS 0 rfl rfl 3 (by decide) (hts (.fieldLink RX1 23 "Coldaisle$Settings" "proportional" "I") (by decide +kernel)) (fun _ h9 => h9) rfl (by decide +kernel) rfl rfl (Nat.le_of_ble_eq_true rfl) dX1_init_93 (fun H locs hP hD hS => ?_)
      have hP : va_P D vwCl ([(h0, .inr (1, [.ref q7, .ref q15, .ref q25, .int (nI 20), .int 0, .int 0, .int 0, .int 0])), (q7, .inl (cI, 6, .inl (fun _ => nI 0))), (q15, .inl (cI, 6, .inl (mFl 6 (fun _ => nI 2200) (fun _ => nI 0)))), (q25, .inl (cO, 8, .inr (.inr (.inr (.inr (fun i => some (r25 i)))))))] ++ (rws cI 6 8 r25 (iEf 6) ++ [])) H := hP
      have hD : va_D A ([(h0, .inr (1, [.ref q7, .ref q15, .ref q25, .int (nI 20), .int 0, .int 0, .int 0, .int 0])), (q7, .inl (cI, 6, .inl (fun _ => nI 0))), (q15, .inl (cI, 6, .inl (mFl 6 (fun _ => nI 2200) (fun _ => nI 0)))), (q25, .inl (cO, 8, .inr (.inr (.inr (.inr (fun i => some (r25 i)))))))] ++ (rws cI 6 8 r25 (iEf 6) ++ [])) := hD
      refine lv_aload_n hx hb dX1_init_96 rfl (lv_at hl 0 rfl) ?_
      refine lv_bipush (v := nI 10) hx hb dX1_init_97 (by decide +kernel) ?_
      refine va_put (D := D) (ci := 1) (v := .int (nI 10)) (ty := tyX1 4) (C := RX1) (T := TX1) (N := 8) hx hb hts hi_X1 tyX1 tyX1_ok nmX1 hown hK hP hD hS 0 rfl rfl 4 (by decide) (hts (.fieldLink RX1 27 "Coldaisle$Settings" "integral" "I") (by decide +kernel)) (fun _ h9 => h9) rfl (by decide +kernel) rfl rfl (Nat.le_of_ble_eq_true rfl) dX1_init_99 (fun H locs hP hD hS => ?_)
      have hP : va_P D vwCl ([(h0, .inr (1, [.ref q7, .ref q15, .ref q25, .int (nI 20), .int (nI 10), .int 0, .int 0, .int 0])), (q7, .inl (cI, 6, .inl (fun _ => nI 0))), (q15, .inl (cI, 6, .inl (mFl 6 (fun _ => nI 2200) (fun _ => nI 0)))), (q25, .inl (cO, 8, .inr (.inr (.inr (.inr (fun i => some (r25 i)))))))] ++ (rws cI 6 8 r25 (iEf 6) ++ [])) H := hP
      have hD : va_D A ([(h0, .inr (1, [.ref q7, .ref q15, .ref q25, .int (nI 20), .int (nI 10), .int 0, .int 0, .int 0])), (q7, .inl (cI, 6, .inl (fun _ => nI 0))), (q15, .inl (cI, 6, .inl (mFl 6 (fun _ => nI 2200) (fun _ => nI 0)))), (q25, .inl (cO, 8, .inr (.inr (.inr (.inr (fun i => some (r25 i)))))))] ++ (rws cI 6 8 r25 (iEf 6) ++ [])) := hD
      refine lv_aload_n hx hb dX1_init_102 rfl (lv_at hl 0 rfl) ?_
      refine lv_sipush (v := nI 2500) hx hb dX1_init_103 (by decide +kernel) ?_
      refine va_put (D := D) (ci := 1) (v := .int (nI 2500)) (ty := tyX1 5) (C := RX1) (T := TX1) (N := 8) hx hb hts hi_X1 tyX1 tyX1_ok nmX1 hown hK hP hD hS 0 rfl rfl 5 (by decide) (hts (.fieldLink RX1 30 "Coldaisle$Settings" "ambient" "I") (by decide +kernel)) (fun _ h9 => h9) rfl (by decide +kernel) rfl rfl (Nat.le_of_ble_eq_true rfl) dX1_init_106 (fun H locs hP hD hS => ?_)
      have hP : va_P D vwCl ([(h0, .inr (1, [.ref q7, .ref q15, .ref q25, .int (nI 20), .int (nI 10), .int (nI 2500), .int 0, .int 0])), (q7, .inl (cI, 6, .inl (fun _ => nI 0))), (q15, .inl (cI, 6, .inl (mFl 6 (fun _ => nI 2200) (fun _ => nI 0)))), (q25, .inl (cO, 8, .inr (.inr (.inr (.inr (fun i => some (r25 i)))))))] ++ (rws cI 6 8 r25 (iEf 6) ++ [])) H := hP
      have hD : va_D A ([(h0, .inr (1, [.ref q7, .ref q15, .ref q25, .int (nI 20), .int (nI 10), .int (nI 2500), .int 0, .int 0])), (q7, .inl (cI, 6, .inl (fun _ => nI 0))), (q15, .inl (cI, 6, .inl (mFl 6 (fun _ => nI 2200) (fun _ => nI 0)))), (q25, .inl (cO, 8, .inr (.inr (.inr (.inr (fun i => some (r25 i)))))))] ++ (rws cI 6 8 r25 (iEf 6) ++ [])) := hD
      refine lv_aload_n hx hb dX1_init_109 rfl (lv_at hl 0 rfl) ?_
      refine lv_sipush (v := nI 2700) hx hb dX1_init_110 (by decide +kernel) ?_
      refine va_put (D := D) (ci := 1) (v := .int (nI 2700)) (ty := tyX1 6) (C := RX1) (T := TX1) (N := 8) hx hb hts hi_X1 tyX1 tyX1_ok nmX1 hown hK hP hD hS 0 rfl rfl 6 (by decide) (hts (.fieldLink RX1 33 "Coldaisle$Settings" "limit" "I") (by decide +kernel)) (fun _ h9 => h9) rfl (by decide +kernel) rfl rfl (Nat.le_of_ble_eq_true rfl) dX1_init_113 (fun H locs hP hD hS => ?_)
      have hP : va_P D vwCl ([(h0, .inr (1, [.ref q7, .ref q15, .ref q25, .int (nI 20), .int (nI 10), .int (nI 2500), .int (nI 2700), .int 0])), (q7, .inl (cI, 6, .inl (fun _ => nI 0))), (q15, .inl (cI, 6, .inl (mFl 6 (fun _ => nI 2200) (fun _ => nI 0)))), (q25, .inl (cO, 8, .inr (.inr (.inr (.inr (fun i => some (r25 i)))))))] ++ (rws cI 6 8 r25 (iEf 6) ++ [])) H := hP
      have hD : va_D A ([(h0, .inr (1, [.ref q7, .ref q15, .ref q25, .int (nI 20), .int (nI 10), .int (nI 2500), .int (nI 2700), .int 0])), (q7, .inl (cI, 6, .inl (fun _ => nI 0))), (q15, .inl (cI, 6, .inl (mFl 6 (fun _ => nI 2200) (fun _ => nI 0)))), (q25, .inl (cO, 8, .inr (.inr (.inr (.inr (fun i => some (r25 i)))))))] ++ (rws cI 6 8 r25 (iEf 6) ++ [])) := hD
      refine lv_aload_n hx hb dX1_init_116 rfl (lv_at hl 0 rfl) ?_
      refine lv_iconst (v := nI 2) hx hb dX1_init_117 (by decide +kernel) ?_
      refine va_put (D := D) (ci := 1) (v := .int (nI 2)) (ty := tyX1 7) (C := RX1) (T := TX1) (N := 8) hx hb hts hi_X1 tyX1 tyX1_ok nmX1 hown hK hP hD hS 0 rfl rfl 7 (by decide) (hts (.fieldLink RX1 36 "Coldaisle$Settings" "delay" "I") (by decide +kernel)) (fun _ h9 => h9) rfl (by decide +kernel) rfl rfl (Nat.le_of_ble_eq_true rfl) dX1_init_118 (fun H locs hP hD hS => ?_)
      have hP : va_P D vwCl ([(h0, .inr (1, [.ref q7, .ref q15, .ref q25, .int (nI 20), .int (nI 10), .int (nI 2500), .int (nI 2700), .int (nI 2)])), (q7, .inl (cI, 6, .inl (fun _ => nI 0))), (q15, .inl (cI, 6, .inl (mFl 6 (fun _ => nI 2200) (fun _ => nI 0)))), (q25, .inl (cO, 8, .inr (.inr (.inr (.inr (fun i => some (r25 i)))))))] ++ (rws cI 6 8 r25 (iEf 6) ++ [])) H := hP
      have hD : va_D A ([(h0, .inr (1, [.ref q7, .ref q15, .ref q25, .int (nI 20), .int (nI 10), .int (nI 2500), .int (nI 2700), .int (nI 2)])), (q7, .inl (cI, 6, .inl (fun _ => nI 0))), (q15, .inl (cI, 6, .inl (mFl 6 (fun _ => nI 2200) (fun _ => nI 0)))), (q25, .inl (cO, 8, .inr (.inr (.inr (.inr (fun i => some (r25 i)))))))] ++ (rws cI 6 8 r25 (iEf 6) ++ [])) := hD
      subst hQ9
      subst hA9
      have hE : ∀ i : Nat, kCat [h0, q7, q15, q25] r25 (4 + i) = r25 i := fun i => kCat_add [h0, q7, q15, q25] r25 i
      exact kRetC (kCat [h0, q7, q15, q25] r25) rfl hx hb hr hlocks (by unfold wS; simp only [hE]; exact hP) (by unfold wS; simp only [hE]; exact hD) hS dX1_init_121
    | succ n ih =>
      intro z hz H locs hP hD hS ls hl
      have hzb : z < 6 := by omega
      refine lv_iload_n hx hb dX1_init_34 rfl (lv_at hl 1 rfl) ?_
      refine lv_bipush (v := nI 6) hx hb dX1_init_35 (by decide +kernel) ?_
      refine lv_icmp_ge (tgt := 90) hx hb dX1_init_37 (by decide) (fun c9 => absurd c9 (nI_ge hzb (by decide))) (fun _ => ?_)
      refine lv_aload_n hx hb dX1_init_40 rfl (lv_at hl 0 rfl) ?_
      refine va_get (D := D) (ci := 1) (v := .ref q15) (C := RX1) (T := TX1) (N := 8) hx hb hts hi_X1 hown hK hP 0 rfl rfl 1 (by decide) (hts (.fieldLink RX1 15 "Coldaisle$Settings" "setpoint" "[I") (by decide +kernel)) (fun _ h9 => h9) rfl dX1_init_41 ?_
      refine lv_iload_n hx hb dX1_init_44 rfl (lv_at hl 1 rfl) ?_
      refine lv_sipush (v := nI 2200) hx hb dX1_init_45 (by decide +kernel) ?_
      refine k_iast hx hb hK hP hD hS 2 0 rfl rfl (i := z) (x := nI 2200) (by omega) (by decide) dX1_init_48 (fun H locs hP hD hS => ?_)
      have hP : va_P D vwCl ([(h0, .inr (1, [.ref q7, .ref q15, .ref q25, .int 0, .int 0, .int 0, .int 0, .int 0])), (q7, .inl (cI, 6, .inl (fun _ => nI 0))), (q15, .inl (cI, 6, .inl (upd (mFl z (fun _ => nI 2200) (fun _ => nI 0)) z (nI 2200)))), (q25, .inl (cO, 8, .inr (.inr (.inr (.inr (fun i => some (r25 i)))))))] ++ (rws cI 6 8 r25 (iEf z) ++ [])) H := hP
      have hD : va_D A ([(h0, .inr (1, [.ref q7, .ref q15, .ref q25, .int 0, .int 0, .int 0, .int 0, .int 0])), (q7, .inl (cI, 6, .inl (fun _ => nI 0))), (q15, .inl (cI, 6, .inl (upd (mFl z (fun _ => nI 2200) (fun _ => nI 0)) z (nI 2200)))), (q25, .inl (cO, 8, .inr (.inr (.inr (.inr (fun i => some (r25 i)))))))] ++ (rws cI 6 8 r25 (iEf z) ++ [])) := hD
      have hP : va_P D vwCl ([(h0, .inr (1, [.ref q7, .ref q15, .ref q25, .int 0, .int 0, .int 0, .int 0, .int 0])), (q7, .inl (cI, 6, .inl (fun _ => nI 0))), (q15, .inl (cI, 6, .inl (mFl (z + 1) (fun _ => nI 2200) (fun _ => nI 0)))), (q25, .inl (cO, 8, .inr (.inr (.inr (.inr (fun i => some (r25 i)))))))] ++ (rws cI 6 8 r25 (iEf z) ++ [])) H := by rw [← mFl_up z (fun _ => nI 2200) (fun _ => nI 0)]; exact hP
      have hD : va_D A ([(h0, .inr (1, [.ref q7, .ref q15, .ref q25, .int 0, .int 0, .int 0, .int 0, .int 0])), (q7, .inl (cI, 6, .inl (fun _ => nI 0))), (q15, .inl (cI, 6, .inl (mFl (z + 1) (fun _ => nI 2200) (fun _ => nI 0)))), (q25, .inl (cO, 8, .inr (.inr (.inr (.inr (fun i => some (r25 i)))))))] ++ (rws cI 6 8 r25 (iEf z) ++ [])) := by rw [← mFl_up z (fun _ => nI 2200) (fun _ => nI 0)]; exact hD
      refine lv_aload_n hx hb dX1_init_49 rfl (lv_at hl 0 rfl) ?_
      refine va_get (D := D) (ci := 1) (v := .ref q25) (C := RX1) (T := TX1) (N := 8) hx hb hts hi_X1 hown hK hP 0 rfl rfl 2 (by decide) (hts (.fieldLink RX1 20 "Coldaisle$Settings" "effect" "[[I") (by decide +kernel)) (fun _ h9 => h9) rfl dX1_init_50 ?_
      refine lv_iload_n hx hb dX1_init_53 rfl (lv_at hl 1 rfl) ?_
      refine k_aald hx hb hK hP 3 2 rfl rfl (i := z) (by omega) (by decide) dX1_init_54 ?_
      refine lv_iload_n hx hb dX1_init_55 rfl (lv_at hl 1 rfl) ?_
      refine lv_bipush (v := nI 60) hx hb dX1_init_56 (by decide +kernel) ?_
      refine k_iast hx hb hK hP hD hS _ 0 (rws_at (N := 4) (j := z) rfl (by omega)) rfl (i := z) (x := nI 60) (by omega) (by decide) dX1_init_58 (fun H locs hP hD hS => ?_)
      have hP : va_P D vwCl ([(h0, .inr (1, [.ref q7, .ref q15, .ref q25, .int 0, .int 0, .int 0, .int 0, .int 0])), (q7, .inl (cI, 6, .inl (fun _ => nI 0))), (q15, .inl (cI, 6, .inl (mFl (z + 1) (fun _ => nI 2200) (fun _ => nI 0)))), (q25, .inl (cO, 8, .inr (.inr (.inr (.inr (fun i => some (r25 i)))))))] ++ (rws cI 6 8 r25 (va_up (iEf z) z (upd ((iEf z) z) z (nI 60))) ++ [])) H := (by have h := hP; rw [rws_set (N := 4) (j := z) rfl (by omega)] at h; exact h)
      have hD : va_D A ([(h0, .inr (1, [.ref q7, .ref q15, .ref q25, .int 0, .int 0, .int 0, .int 0, .int 0])), (q7, .inl (cI, 6, .inl (fun _ => nI 0))), (q15, .inl (cI, 6, .inl (mFl (z + 1) (fun _ => nI 2200) (fun _ => nI 0)))), (q25, .inl (cO, 8, .inr (.inr (.inr (.inr (fun i => some (r25 i)))))))] ++ (rws cI 6 8 r25 (va_up (iEf z) z (upd ((iEf z) z) z (nI 60))) ++ [])) := (by have h := hD; rw [rws_set (N := 4) (j := z) rfl (by omega)] at h; exact h)
      refine lv_bipush (v := nI 6) hx hb dX1_init_59 (by decide +kernel) ?_
      refine lv_istore_n (lv' := [(2, .int (nI 6)), (0, .ref h0), (1, .int (nI z))]) hx hb dX1_init_61 rfl hl (by decide) rfl (fun ls hl => ?_)
      refine lv_iload_n hx hb dX1_init_62 rfl (lv_at hl 0 rfl) ?_
      refine lv_bipush (v := nI 8) hx hb dX1_init_63 (by decide +kernel) ?_
      refine lv_icmp_ge (tgt := 84) hx hb dX1_init_65 (by decide) (fun c9 => absurd c9 (by decide +kernel)) (fun _ => ?_)
      refine lv_aload_n hx hb dX1_init_68 rfl (lv_at hl 1 rfl) ?_
      refine va_get (D := D) (ci := 1) (v := .ref q25) (C := RX1) (T := TX1) (N := 8) hx hb hts hi_X1 hown hK hP 0 rfl rfl 2 (by decide) (hts (.fieldLink RX1 20 "Coldaisle$Settings" "effect" "[[I") (by decide +kernel)) (fun _ h9 => h9) rfl dX1_init_69 ?_
      refine lv_iload_n hx hb dX1_init_72 rfl (lv_at hl 0 rfl) ?_
      refine k_aald hx hb hK hP 3 2 rfl rfl (i := 6) (by decide) (by decide) dX1_init_73 ?_
      refine lv_iload_n hx hb dX1_init_74 rfl (lv_at hl 2 rfl) ?_
      refine lv_bipush (v := nI 20) hx hb dX1_init_75 (by decide +kernel) ?_
      refine k_iast hx hb hK hP hD hS _ 0 (rws_at (N := 4) (j := 6) rfl (by omega)) rfl (i := z) (x := nI 20) (by omega) (by decide) dX1_init_77 (fun H locs hP hD hS => ?_)
      have hP : va_P D vwCl ([(h0, .inr (1, [.ref q7, .ref q15, .ref q25, .int 0, .int 0, .int 0, .int 0, .int 0])), (q7, .inl (cI, 6, .inl (fun _ => nI 0))), (q15, .inl (cI, 6, .inl (mFl (z + 1) (fun _ => nI 2200) (fun _ => nI 0)))), (q25, .inl (cO, 8, .inr (.inr (.inr (.inr (fun i => some (r25 i)))))))] ++ (rws cI 6 8 r25 (va_up (va_up (iEf z) z (upd ((iEf z) z) z (nI 60))) 6 (upd ((va_up (iEf z) z (upd ((iEf z) z) z (nI 60))) 6) z (nI 20))) ++ [])) H := (by have h := hP; rw [rws_set (N := 4) (j := 6) rfl (by omega)] at h; exact h)
      have hD : va_D A ([(h0, .inr (1, [.ref q7, .ref q15, .ref q25, .int 0, .int 0, .int 0, .int 0, .int 0])), (q7, .inl (cI, 6, .inl (fun _ => nI 0))), (q15, .inl (cI, 6, .inl (mFl (z + 1) (fun _ => nI 2200) (fun _ => nI 0)))), (q25, .inl (cO, 8, .inr (.inr (.inr (.inr (fun i => some (r25 i)))))))] ++ (rws cI 6 8 r25 (va_up (va_up (iEf z) z (upd ((iEf z) z) z (nI 60))) 6 (upd ((va_up (iEf z) z (upd ((iEf z) z) z (nI 60))) 6) z (nI 20))) ++ [])) := (by have h := hD; rw [rws_set (N := 4) (j := 6) rfl (by omega)] at h; exact h)
      refine lv_iinc (v := nI 7) (lv' := [(2, .int (nI 7)), (0, .ref h0), (1, .int (nI z))]) hx hb dX1_init_78 hl (k := 0) rfl (k_inc _) (by decide) rfl (fun ls hl => ?_)
      refine lv_goto (tgt := 62) hx hb dX1_init_81 (by decide) ?_
      refine lv_iload_n hx hb dX1_init_62 rfl (lv_at hl 0 rfl) ?_
      refine lv_bipush (v := nI 8) hx hb dX1_init_63 (by decide +kernel) ?_
      refine lv_icmp_ge (tgt := 84) hx hb dX1_init_65 (by decide) (fun c9 => absurd c9 (by decide +kernel)) (fun _ => ?_)
      refine lv_aload_n hx hb dX1_init_68 rfl (lv_at hl 1 rfl) ?_
      refine va_get (D := D) (ci := 1) (v := .ref q25) (C := RX1) (T := TX1) (N := 8) hx hb hts hi_X1 hown hK hP 0 rfl rfl 2 (by decide) (hts (.fieldLink RX1 20 "Coldaisle$Settings" "effect" "[[I") (by decide +kernel)) (fun _ h9 => h9) rfl dX1_init_69 ?_
      refine lv_iload_n hx hb dX1_init_72 rfl (lv_at hl 0 rfl) ?_
      refine k_aald hx hb hK hP 3 2 rfl rfl (i := 7) (by decide) (by decide) dX1_init_73 ?_
      refine lv_iload_n hx hb dX1_init_74 rfl (lv_at hl 2 rfl) ?_
      refine lv_bipush (v := nI 20) hx hb dX1_init_75 (by decide +kernel) ?_
      refine k_iast hx hb hK hP hD hS _ 0 (rws_at (N := 4) (j := 7) rfl (by omega)) rfl (i := z) (x := nI 20) (by omega) (by decide) dX1_init_77 (fun H locs hP hD hS => ?_)
      have hP : va_P D vwCl ([(h0, .inr (1, [.ref q7, .ref q15, .ref q25, .int 0, .int 0, .int 0, .int 0, .int 0])), (q7, .inl (cI, 6, .inl (fun _ => nI 0))), (q15, .inl (cI, 6, .inl (mFl (z + 1) (fun _ => nI 2200) (fun _ => nI 0)))), (q25, .inl (cO, 8, .inr (.inr (.inr (.inr (fun i => some (r25 i)))))))] ++ (rws cI 6 8 r25 (va_up (va_up (va_up (iEf z) z (upd ((iEf z) z) z (nI 60))) 6 (upd ((va_up (iEf z) z (upd ((iEf z) z) z (nI 60))) 6) z (nI 20))) 7 (upd ((va_up (va_up (iEf z) z (upd ((iEf z) z) z (nI 60))) 6 (upd ((va_up (iEf z) z (upd ((iEf z) z) z (nI 60))) 6) z (nI 20))) 7) z (nI 20))) ++ [])) H := (by have h := hP; rw [rws_set (N := 4) (j := 7) rfl (by omega)] at h; exact h)
      have hD : va_D A ([(h0, .inr (1, [.ref q7, .ref q15, .ref q25, .int 0, .int 0, .int 0, .int 0, .int 0])), (q7, .inl (cI, 6, .inl (fun _ => nI 0))), (q15, .inl (cI, 6, .inl (mFl (z + 1) (fun _ => nI 2200) (fun _ => nI 0)))), (q25, .inl (cO, 8, .inr (.inr (.inr (.inr (fun i => some (r25 i)))))))] ++ (rws cI 6 8 r25 (va_up (va_up (va_up (iEf z) z (upd ((iEf z) z) z (nI 60))) 6 (upd ((va_up (iEf z) z (upd ((iEf z) z) z (nI 60))) 6) z (nI 20))) 7 (upd ((va_up (va_up (iEf z) z (upd ((iEf z) z) z (nI 60))) 6 (upd ((va_up (iEf z) z (upd ((iEf z) z) z (nI 60))) 6) z (nI 20))) 7) z (nI 20))) ++ [])) := (by have h := hD; rw [rws_set (N := 4) (j := 7) rfl (by omega)] at h; exact h)
      have hP : va_P D vwCl ([(h0, .inr (1, [.ref q7, .ref q15, .ref q25, .int 0, .int 0, .int 0, .int 0, .int 0])), (q7, .inl (cI, 6, .inl (fun _ => nI 0))), (q15, .inl (cI, 6, .inl (mFl (z + 1) (fun _ => nI 2200) (fun _ => nI 0)))), (q25, .inl (cO, 8, .inr (.inr (.inr (.inr (fun i => some (r25 i)))))))] ++ (rws cI 6 8 r25 (iEf (z + 1)) ++ [])) H := hP
      have hD : va_D A ([(h0, .inr (1, [.ref q7, .ref q15, .ref q25, .int 0, .int 0, .int 0, .int 0, .int 0])), (q7, .inl (cI, 6, .inl (fun _ => nI 0))), (q15, .inl (cI, 6, .inl (mFl (z + 1) (fun _ => nI 2200) (fun _ => nI 0)))), (q25, .inl (cO, 8, .inr (.inr (.inr (.inr (fun i => some (r25 i)))))))] ++ (rws cI 6 8 r25 (iEf (z + 1)) ++ [])) := hD
      refine lv_iinc (v := nI 8) (lv' := [(2, .int (nI 8)), (0, .ref h0), (1, .int (nI z))]) hx hb dX1_init_78 hl (k := 0) rfl (k_inc _) (by decide) rfl (fun ls hl => ?_)
      refine lv_goto (tgt := 62) hx hb dX1_init_81 (by decide) ?_
      refine lv_iload_n hx hb dX1_init_62 rfl (lv_at hl 0 rfl) ?_
      refine lv_bipush (v := nI 8) hx hb dX1_init_63 (by decide +kernel) ?_
      refine lv_icmp_ge (tgt := 84) hx hb dX1_init_65 (by decide) (fun _ => ?_) (fun c9 => absurd (by decide +kernel) c9)
      refine lv_iinc (v := nI (z + 1)) (lv' := [(1, .int (nI (z + 1))), (2, .int (nI 8)), (0, .ref h0)]) hx hb dX1_init_84 hl (k := 2) rfl (k_inc _) (by decide) rfl (fun ls hl => ?_)
      refine lv_goto (tgt := 34) hx hb dX1_init_87 (by decide) ?_
      exact ih (z + 1) (by omega) H locs hP hD hS ls (lv_sub hl [2, 0] rfl)
  exact lp 6 0 rfl H locs (by simp only [mFl_0]; exact hP) (by simp only [mFl_0]; exact hD) hS ls (lv_sub hl [1, 0] rfl)

abbrev rmX0_init : Room := { frames := 1, cells := 15, slots := 115, locals := 40 }
set_option maxHeartbeats 8000000 in
set_option maxRecDepth 100000 in
/-- a new X0 -/
theorem c_X0_init (l : Launch) (D : va_G) (cI cZ cO cJ : ClassId) (h0 sz : Nat) : kMC l yX0_init wsX0_init rmX0_init D (kT cI cZ cO cJ) [.ref h0] ([(h0, .inr (0, [.null, .null, .null, .null, .null, .null, .int 0]))]) (fun u => wHa cI cZ cO u (mFl 6 (fun _ => nI 2000) (fun _ => nI 0)) (fun _ => nI 0) (fun _ => nI 0) (fun _ => nI 0) (fun _ => nI 0) (fun _ _ => nI 0) 0) (fun u => u 0 = h0) 15 115 sz := by
  refine kEnterC (cc := cX0_init) (maxL := 2) (ret := none) (by decide +kernel) rfl (Nat.le_of_ble_eq_true rfl) ?_
  intro p e s m below meth c args hx hb hr hml hts hown hlocks hin hK hN hO A hA9 Q hQ9 hP hD hsz hS hA ls hl
  have hl : lv_has ls 2 [(0, .ref h0)] := hl
  have hi_X0 : ∀ w ∈ u_ws RX0 TX0 7, w ∈ wsX0_init := by decide +kernel
  obtain ⟨H, hH9⟩ : ∃ H, H = s.heap := ⟨_, rfl⟩
  rw [← hH9] at hP ⊢
  have hS : va_S A s.heap H [] := by rw [hH9]; exact va_S.rf
  refine lv_aload_n hx hb dX0_init_0 rfl (lv_at hl 0 rfl) ?_
  refine W.objInit hx hb hown (hts (.methodLink RX0 3 objectInit) (by decide +kernel)) (hts (.instanceMethod objectInit) (by decide +kernel)) (hts (.code objectInit ⟨#[0xb1]⟩ 1 none) (by decide +kernel)) rfl (by rw [hml]; exact hl.1) rfl dX0_init_1 (Nat.le_of_ble_eq_true rfl) (Nat.le_of_ble_eq_true rfl) ?_
  refine W.eq (g2 := F0 m 4 ls []) rfl ?_
  refine lv_aload_n hx hb dX0_init_4 rfl (lv_at hl 0 rfl) ?_
  refine lv_bipush (v := nI 6) hx hb dX0_init_5 (by decide +kernel) ?_
  refine k_newa hx hb (atype := .int) (hts (.arrayClass .int) (by decide +kernel)) .int rfl rfl hK 0 rfl hP hD hS hA 6 (by decide) (a0 := (6, .inl (fun _ => nI 0))) (fun _ => rfl) (by decide) (Nat.le_of_ble_eq_true rfl) (Nat.le_of_ble_eq_true rfl) dX0_init_7 (fun q7 H hP hD hS => ?_)
  have hP : va_P D vwCl ([(h0, .inr (0, [.null, .null, .null, .null, .null, .null, .int 0])), (q7, .inl (cI, 6, .inl (fun _ => nI 0)))]) H := hP
  have hD : va_D A ([(h0, .inr (0, [.null, .null, .null, .null, .null, .null, .int 0])), (q7, .inl (cI, 6, .inl (fun _ => nI 0)))]) := hD
  refine W.widen (k := 1) (n := 6) (by decide) (by decide) ?_
  refine va_putF (D := D) (ci := 0) (v := .ref q7) (ty := tyX0 0) (C := RX0) (T := TX0) (N := 7) hx hb hts hi_X0 tyX0 tyX0_ok nmX0 hown hK hP hD hS 0 rfl rfl 0 (by decide) (hts (.fieldLink RX0 9 "Coldaisle$Hall" "temperature" "[I") (by decide +kernel)) (fun _ h9 => h9) rfl hin rfl (by decide +kernel) rfl rfl (Nat.le_of_ble_eq_true rfl) dX0_init_9 (fun H locs hP hD hS => ?_)
  have hP : va_P D vwCl ([(h0, .inr (0, [.ref q7, .null, .null, .null, .null, .null, .int 0])), (q7, .inl (cI, 6, .inl (fun _ => nI 0)))]) H := hP
  have hD : va_D A ([(h0, .inr (0, [.ref q7, .null, .null, .null, .null, .null, .int 0])), (q7, .inl (cI, 6, .inl (fun _ => nI 0)))]) := hD
  refine lv_aload_n hx hb dX0_init_12 rfl (lv_at hl 0 rfl) ?_
  refine lv_bipush (v := nI 6) hx hb dX0_init_13 (by decide +kernel) ?_
  refine k_newa hx hb (atype := .int) (hts (.arrayClass .int) (by decide +kernel)) .int rfl rfl hK 0 rfl hP hD hS hA 6 (by decide) (a0 := (6, .inl (fun _ => nI 0))) (fun _ => rfl) (by decide) (Nat.le_of_ble_eq_true rfl) (Nat.le_of_ble_eq_true rfl) dX0_init_15 (fun q15 H hP hD hS => ?_)
  have hP : va_P D vwCl ([(h0, .inr (0, [.ref q7, .null, .null, .null, .null, .null, .int 0])), (q7, .inl (cI, 6, .inl (fun _ => nI 0))), (q15, .inl (cI, 6, .inl (fun _ => nI 0)))]) H := hP
  have hD : va_D A ([(h0, .inr (0, [.ref q7, .null, .null, .null, .null, .null, .int 0])), (q7, .inl (cI, 6, .inl (fun _ => nI 0))), (q15, .inl (cI, 6, .inl (fun _ => nI 0)))]) := hD
  refine W.widen (k := 2) (n := 12) (by decide) (by decide) ?_
  refine va_putF (D := D) (ci := 0) (v := .ref q15) (ty := tyX0 1) (C := RX0) (T := TX0) (N := 7) hx hb hts hi_X0 tyX0 tyX0_ok nmX0 hown hK hP hD hS 0 rfl rfl 1 (by decide) (hts (.fieldLink RX0 15 "Coldaisle$Hall" "errors" "[I") (by decide +kernel)) (fun _ h9 => h9) rfl hin rfl (by decide +kernel) rfl rfl (Nat.le_of_ble_eq_true rfl) dX0_init_17 (fun H locs hP hD hS => ?_)
  have hP : va_P D vwCl ([(h0, .inr (0, [.ref q7, .ref q15, .null, .null, .null, .null, .int 0])), (q7, .inl (cI, 6, .inl (fun _ => nI 0))), (q15, .inl (cI, 6, .inl (fun _ => nI 0)))]) H := hP
  have hD : va_D A ([(h0, .inr (0, [.ref q7, .ref q15, .null, .null, .null, .null, .int 0])), (q7, .inl (cI, 6, .inl (fun _ => nI 0))), (q15, .inl (cI, 6, .inl (fun _ => nI 0)))]) := hD
  refine lv_aload_n hx hb dX0_init_20 rfl (lv_at hl 0 rfl) ?_
  refine lv_bipush (v := nI 6) hx hb dX0_init_21 (by decide +kernel) ?_
  refine k_newa hx hb (atype := .int) (hts (.arrayClass .int) (by decide +kernel)) .int rfl rfl hK 0 rfl hP hD hS hA 6 (by decide) (a0 := (6, .inl (fun _ => nI 0))) (fun _ => rfl) (by decide) (Nat.le_of_ble_eq_true rfl) (Nat.le_of_ble_eq_true rfl) dX0_init_23 (fun q23 H hP hD hS => ?_)
  have hP : va_P D vwCl ([(h0, .inr (0, [.ref q7, .ref q15, .null, .null, .null, .null, .int 0])), (q7, .inl (cI, 6, .inl (fun _ => nI 0))), (q15, .inl (cI, 6, .inl (fun _ => nI 0))), (q23, .inl (cI, 6, .inl (fun _ => nI 0)))]) H := hP
  have hD : va_D A ([(h0, .inr (0, [.ref q7, .ref q15, .null, .null, .null, .null, .int 0])), (q7, .inl (cI, 6, .inl (fun _ => nI 0))), (q15, .inl (cI, 6, .inl (fun _ => nI 0))), (q23, .inl (cI, 6, .inl (fun _ => nI 0)))]) := hD
  refine W.widen (k := 3) (n := 18) (by decide) (by decide) ?_
  refine va_putF (D := D) (ci := 0) (v := .ref q23) (ty := tyX0 2) (C := RX0) (T := TX0) (N := 7) hx hb hts hi_X0 tyX0 tyX0_ok nmX0 hown hK hP hD hS 0 rfl rfl 2 (by decide) (hts (.fieldLink RX0 18 "Coldaisle$Hall" "demand" "[I") (by decide +kernel)) (fun _ h9 => h9) rfl hin rfl (by decide +kernel) rfl rfl (Nat.le_of_ble_eq_true rfl) dX0_init_25 (fun H locs hP hD hS => ?_)
  have hP : va_P D vwCl ([(h0, .inr (0, [.ref q7, .ref q15, .ref q23, .null, .null, .null, .int 0])), (q7, .inl (cI, 6, .inl (fun _ => nI 0))), (q15, .inl (cI, 6, .inl (fun _ => nI 0))), (q23, .inl (cI, 6, .inl (fun _ => nI 0)))]) H := hP
  have hD : va_D A ([(h0, .inr (0, [.ref q7, .ref q15, .ref q23, .null, .null, .null, .int 0])), (q7, .inl (cI, 6, .inl (fun _ => nI 0))), (q15, .inl (cI, 6, .inl (fun _ => nI 0))), (q23, .inl (cI, 6, .inl (fun _ => nI 0)))]) := hD
  refine lv_aload_n hx hb dX0_init_28 rfl (lv_at hl 0 rfl) ?_
  refine lv_bipush (v := nI 8) hx hb dX0_init_29 (by decide +kernel) ?_
  refine k_newa hx hb (atype := .boolean) (hts (.arrayClass .boolean) (by decide +kernel)) .boolean rfl rfl hK 1 rfl hP hD hS hA 8 (by decide) (a0 := (8, .inl (fun _ => nI 0))) (fun _ => rfl) (by decide) (Nat.le_of_ble_eq_true rfl) (Nat.le_of_ble_eq_true rfl) dX0_init_31 (fun q31 H hP hD hS => ?_)
  have hP : va_P D vwCl ([(h0, .inr (0, [.ref q7, .ref q15, .ref q23, .null, .null, .null, .int 0])), (q7, .inl (cI, 6, .inl (fun _ => nI 0))), (q15, .inl (cI, 6, .inl (fun _ => nI 0))), (q23, .inl (cI, 6, .inl (fun _ => nI 0))), (q31, .inl (cZ, 8, .inl (fun _ => nI 0)))]) H := hP
  have hD : va_D A ([(h0, .inr (0, [.ref q7, .ref q15, .ref q23, .null, .null, .null, .int 0])), (q7, .inl (cI, 6, .inl (fun _ => nI 0))), (q15, .inl (cI, 6, .inl (fun _ => nI 0))), (q23, .inl (cI, 6, .inl (fun _ => nI 0))), (q31, .inl (cZ, 8, .inl (fun _ => nI 0)))]) := hD
  refine W.widen (k := 4) (n := 26) (by decide) (by decide) ?_
  refine va_putF (D := D) (ci := 0) (v := .ref q31) (ty := tyX0 3) (C := RX0) (T := TX0) (N := 7) hx hb hts hi_X0 tyX0 tyX0_ok nmX0 hown hK hP hD hS 0 rfl rfl 3 (by decide) (hts (.fieldLink RX0 21 "Coldaisle$Hall" "failed" "[Z") (by decide +kernel)) (fun _ h9 => h9) rfl hin rfl (by decide +kernel) rfl rfl (Nat.le_of_ble_eq_true rfl) dX0_init_33 (fun H locs hP hD hS => ?_)
  have hP : va_P D vwCl ([(h0, .inr (0, [.ref q7, .ref q15, .ref q23, .ref q31, .null, .null, .int 0])), (q7, .inl (cI, 6, .inl (fun _ => nI 0))), (q15, .inl (cI, 6, .inl (fun _ => nI 0))), (q23, .inl (cI, 6, .inl (fun _ => nI 0))), (q31, .inl (cZ, 8, .inl (fun _ => nI 0)))]) H := hP
  have hD : va_D A ([(h0, .inr (0, [.ref q7, .ref q15, .ref q23, .ref q31, .null, .null, .int 0])), (q7, .inl (cI, 6, .inl (fun _ => nI 0))), (q15, .inl (cI, 6, .inl (fun _ => nI 0))), (q23, .inl (cI, 6, .inl (fun _ => nI 0))), (q31, .inl (cZ, 8, .inl (fun _ => nI 0)))]) := hD
  refine lv_aload_n hx hb dX0_init_36 rfl (lv_at hl 0 rfl) ?_
  refine lv_bipush (v := nI 8) hx hb dX0_init_37 (by decide +kernel) ?_
  refine k_newa hx hb (atype := .int) (hts (.arrayClass .int) (by decide +kernel)) .int rfl rfl hK 0 rfl hP hD hS hA 8 (by decide) (a0 := (8, .inl (fun _ => nI 0))) (fun _ => rfl) (by decide) (Nat.le_of_ble_eq_true rfl) (Nat.le_of_ble_eq_true rfl) dX0_init_39 (fun q39 H hP hD hS => ?_)
  have hP : va_P D vwCl ([(h0, .inr (0, [.ref q7, .ref q15, .ref q23, .ref q31, .null, .null, .int 0])), (q7, .inl (cI, 6, .inl (fun _ => nI 0))), (q15, .inl (cI, 6, .inl (fun _ => nI 0))), (q23, .inl (cI, 6, .inl (fun _ => nI 0))), (q31, .inl (cZ, 8, .inl (fun _ => nI 0))), (q39, .inl (cI, 8, .inl (fun _ => nI 0)))]) H := hP
  have hD : va_D A ([(h0, .inr (0, [.ref q7, .ref q15, .ref q23, .ref q31, .null, .null, .int 0])), (q7, .inl (cI, 6, .inl (fun _ => nI 0))), (q15, .inl (cI, 6, .inl (fun _ => nI 0))), (q23, .inl (cI, 6, .inl (fun _ => nI 0))), (q31, .inl (cZ, 8, .inl (fun _ => nI 0))), (q39, .inl (cI, 8, .inl (fun _ => nI 0)))]) := hD
  refine W.widen (k := 5) (n := 34) (by decide) (by decide) ?_
  refine va_putF (D := D) (ci := 0) (v := .ref q39) (ty := tyX0 4) (C := RX0) (T := TX0) (N := 7) hx hb hts hi_X0 tyX0 tyX0_ok nmX0 hown hK hP hD hS 0 rfl rfl 4 (by decide) (hts (.fieldLink RX0 25 "Coldaisle$Hall" "speed" "[I") (by decide +kernel)) (fun _ h9 => h9) rfl hin rfl (by decide +kernel) rfl rfl (Nat.le_of_ble_eq_true rfl) dX0_init_41 (fun H locs hP hD hS => ?_)
  have hP : va_P D vwCl ([(h0, .inr (0, [.ref q7, .ref q15, .ref q23, .ref q31, .ref q39, .null, .int 0])), (q7, .inl (cI, 6, .inl (fun _ => nI 0))), (q15, .inl (cI, 6, .inl (fun _ => nI 0))), (q23, .inl (cI, 6, .inl (fun _ => nI 0))), (q31, .inl (cZ, 8, .inl (fun _ => nI 0))), (q39, .inl (cI, 8, .inl (fun _ => nI 0)))]) H := hP
  have hD : va_D A ([(h0, .inr (0, [.ref q7, .ref q15, .ref q23, .ref q31, .ref q39, .null, .int 0])), (q7, .inl (cI, 6, .inl (fun _ => nI 0))), (q15, .inl (cI, 6, .inl (fun _ => nI 0))), (q23, .inl (cI, 6, .inl (fun _ => nI 0))), (q31, .inl (cZ, 8, .inl (fun _ => nI 0))), (q39, .inl (cI, 8, .inl (fun _ => nI 0)))]) := hD
  refine lv_aload_n hx hb dX0_init_44 rfl (lv_at hl 0 rfl) ?_
  refine lv_bipush (v := nI 9) hx hb dX0_init_45 (by decide +kernel) ?_
  refine lv_bipush (v := nI 8) hx hb dX0_init_47 (by decide +kernel) ?_
  refine k_mna hx hb hown (hts (.classLink RX0 28 "[[I") (by decide +kernel)) hO (hts (.arrayClass .int) (by decide +kernel)) hK 0 2 rfl rfl hP hD hS hA 9 8 (by decide) (by decide) (Nat.le_of_ble_eq_true rfl) (Nat.le_of_ble_eq_true rfl) dX0_init_49 (fun q49 r49 H hP hD hS => ?_)
  have hP : va_P D vwCl ([(h0, .inr (0, [.ref q7, .ref q15, .ref q23, .ref q31, .ref q39, .null, .int 0])), (q7, .inl (cI, 6, .inl (fun _ => nI 0))), (q15, .inl (cI, 6, .inl (fun _ => nI 0))), (q23, .inl (cI, 6, .inl (fun _ => nI 0))), (q31, .inl (cZ, 8, .inl (fun _ => nI 0))), (q39, .inl (cI, 8, .inl (fun _ => nI 0))), (q49, .inl (cO, 9, .inr (.inr (.inr (.inr (fun i => some (r49 i)))))))] ++ (rws cI 8 9 r49 (fun _ _ => nI 0) ++ [])) H := hP
  have hD : va_D A ([(h0, .inr (0, [.ref q7, .ref q15, .ref q23, .ref q31, .ref q39, .null, .int 0])), (q7, .inl (cI, 6, .inl (fun _ => nI 0))), (q15, .inl (cI, 6, .inl (fun _ => nI 0))), (q23, .inl (cI, 6, .inl (fun _ => nI 0))), (q31, .inl (cZ, 8, .inl (fun _ => nI 0))), (q39, .inl (cI, 8, .inl (fun _ => nI 0))), (q49, .inl (cO, 9, .inr (.inr (.inr (.inr (fun i => some (r49 i)))))))] ++ (rws cI 8 9 r49 (fun _ _ => nI 0) ++ [])) := hD
  refine W.widen (k := 15) (n := 115) (by decide) (by decide) ?_
  refine va_putF (D := D) (ci := 0) (v := .ref q49) (ty := tyX0 5) (C := RX0) (T := TX0) (N := 7) hx hb hts hi_X0 tyX0 tyX0_ok nmX0 hown hK hP hD hS 0 rfl rfl 5 (by decide) (hts (.fieldLink RX0 30 "Coldaisle$Hall" "commands" "[[I") (by decide +kernel)) (fun _ h9 => h9) rfl hin rfl (by decide +kernel) rfl rfl (Nat.le_of_ble_eq_true rfl) dX0_init_53 (fun H locs hP hD hS => ?_)
  have hP : va_P D vwCl ([(h0, .inr (0, [.ref q7, .ref q15, .ref q23, .ref q31, .ref q39, .ref q49, .int 0])), (q7, .inl (cI, 6, .inl (fun _ => nI 0))), (q15, .inl (cI, 6, .inl (fun _ => nI 0))), (q23, .inl (cI, 6, .inl (fun _ => nI 0))), (q31, .inl (cZ, 8, .inl (fun _ => nI 0))), (q39, .inl (cI, 8, .inl (fun _ => nI 0))), (q49, .inl (cO, 9, .inr (.inr (.inr (.inr (fun i => some (r49 i)))))))] ++ (rws cI 8 9 r49 (fun _ _ => nI 0) ++ [])) H := hP
  have hD : va_D A ([(h0, .inr (0, [.ref q7, .ref q15, .ref q23, .ref q31, .ref q39, .ref q49, .int 0])), (q7, .inl (cI, 6, .inl (fun _ => nI 0))), (q15, .inl (cI, 6, .inl (fun _ => nI 0))), (q23, .inl (cI, 6, .inl (fun _ => nI 0))), (q31, .inl (cZ, 8, .inl (fun _ => nI 0))), (q39, .inl (cI, 8, .inl (fun _ => nI 0))), (q49, .inl (cO, 9, .inr (.inr (.inr (.inr (fun i => some (r49 i)))))))] ++ (rws cI 8 9 r49 (fun _ _ => nI 0) ++ [])) := hD
  refine lv_aload_n hx hb dX0_init_56 rfl (lv_at hl 0 rfl) ?_
  refine lv_iconst (v := nI 0) hx hb dX0_init_57 (by decide +kernel) ?_
  refine va_put (D := D) (ci := 0) (v := .int (nI 0)) (ty := tyX0 6) (C := RX0) (T := TX0) (N := 7) hx hb hts hi_X0 tyX0 tyX0_ok nmX0 hown hK hP hD hS 0 rfl rfl 6 (by decide) (hts (.fieldLink RX0 33 "Coldaisle$Hall" "lastMinute" "I") (by decide +kernel)) (fun _ h9 => h9) rfl (by decide +kernel) rfl rfl (Nat.le_of_ble_eq_true rfl) dX0_init_58 (fun H locs hP hD hS => ?_)
  have hP : va_P D vwCl ([(h0, .inr (0, [.ref q7, .ref q15, .ref q23, .ref q31, .ref q39, .ref q49, .int (nI 0)])), (q7, .inl (cI, 6, .inl (fun _ => nI 0))), (q15, .inl (cI, 6, .inl (fun _ => nI 0))), (q23, .inl (cI, 6, .inl (fun _ => nI 0))), (q31, .inl (cZ, 8, .inl (fun _ => nI 0))), (q39, .inl (cI, 8, .inl (fun _ => nI 0))), (q49, .inl (cO, 9, .inr (.inr (.inr (.inr (fun i => some (r49 i)))))))] ++ (rws cI 8 9 r49 (fun _ _ => nI 0) ++ [])) H := hP
  have hD : va_D A ([(h0, .inr (0, [.ref q7, .ref q15, .ref q23, .ref q31, .ref q39, .ref q49, .int (nI 0)])), (q7, .inl (cI, 6, .inl (fun _ => nI 0))), (q15, .inl (cI, 6, .inl (fun _ => nI 0))), (q23, .inl (cI, 6, .inl (fun _ => nI 0))), (q31, .inl (cZ, 8, .inl (fun _ => nI 0))), (q39, .inl (cI, 8, .inl (fun _ => nI 0))), (q49, .inl (cO, 9, .inr (.inr (.inr (.inr (fun i => some (r49 i)))))))] ++ (rws cI 8 9 r49 (fun _ _ => nI 0) ++ [])) := hD
  refine lv_iconst (v := nI 0) hx hb dX0_init_61 (by decide +kernel) ?_
  refine lv_istore_n (lv' := [(1, .int (nI 0)), (0, .ref h0)]) hx hb dX0_init_62 rfl hl (by decide) rfl (fun ls hl => ?_)
  have lp : ∀ (n z : Nat), z + n = 6 → ∀ (H : Heap) (locs : List Loc), va_P D vwCl ([(h0, .inr (0, [.ref q7, .ref q15, .ref q23, .ref q31, .ref q39, .ref q49, .int (nI 0)])), (q7, .inl (cI, 6, .inl (mFl z (fun _ => nI 2000) (fun _ => nI 0)))), (q15, .inl (cI, 6, .inl (fun _ => nI 0))), (q23, .inl (cI, 6, .inl (fun _ => nI 0))), (q31, .inl (cZ, 8, .inl (fun _ => nI 0))), (q39, .inl (cI, 8, .inl (fun _ => nI 0))), (q49, .inl (cO, 9, .inr (.inr (.inr (.inr (fun i => some (r49 i)))))))] ++ (rws cI 8 9 r49 (fun _ _ => nI 0) ++ [])) H → va_D A ([(h0, .inr (0, [.ref q7, .ref q15, .ref q23, .ref q31, .ref q39, .ref q49, .int (nI 0)])), (q7, .inl (cI, 6, .inl (mFl z (fun _ => nI 2000) (fun _ => nI 0)))), (q15, .inl (cI, 6, .inl (fun _ => nI 0))), (q23, .inl (cI, 6, .inl (fun _ => nI 0))), (q31, .inl (cZ, 8, .inl (fun _ => nI 0))), (q39, .inl (cI, 8, .inl (fun _ => nI 0))), (q49, .inl (cO, 9, .inr (.inr (.inr (.inr (fun i => some (r49 i)))))))] ++ (rws cI 8 9 r49 (fun _ _ => nI 0) ++ [])) → va_S A s.heap H locs → ∀ ls : Array Slot, lv_has ls 2 [(0, .ref h0), (1, .int (nI z))] → W p l e rmX0_init s m args below meth c H locs 15 115 Q (F0 m 63 ls []) := by
    intro n
    induction n with
    | zero =>
      intro z hz H locs hP hD hS ls hl
      have hz9 : z = 6 := by omega
      subst hz9
      refine lv_iload_n hx hb dX0_init_63 rfl (lv_at hl 1 rfl) ?_
      refine lv_bipush (v := nI 6) hx hb dX0_init_64 (by decide +kernel) ?_
      refine lv_icmp_ge (tgt := 84) hx hb dX0_init_66 (by decide) (fun _ => ?_) (fun c9 => absurd (nI_le (Nat.le_refl 6) (by decide)) c9)
      subst hQ9
      subst hA9
      have hE : ∀ i : Nat, kCat [h0, q7, q15, q23, q31, q39, q49] r49 (7 + i) = r49 i := fun i => kCat_add [h0, q7, q15, q23, q31, q39, q49] r49 i
      exact kRetC (kCat [h0, q7, q15, q23, q31, q39, q49] r49) rfl hx hb hr hlocks (by unfold wHa; simp only [hE]; exact hP) (by unfold wHa; simp only [hE]; exact hD) hS dX0_init_84
    | succ n ih =>
      intro z hz H locs hP hD hS ls hl
      have hzb : z < 6 := by omega
      refine lv_iload_n hx hb dX0_init_63 rfl (lv_at hl 1 rfl) ?_
      refine lv_bipush (v := nI 6) hx hb dX0_init_64 (by decide +kernel) ?_
      refine lv_icmp_ge (tgt := 84) hx hb dX0_init_66 (by decide) (fun c9 => absurd c9 (nI_ge hzb (by decide))) (fun _ => ?_)
      refine lv_aload_n hx hb dX0_init_69 rfl (lv_at hl 0 rfl) ?_
      refine va_get (D := D) (ci := 0) (v := .ref q7) (C := RX0) (T := TX0) (N := 7) hx hb hts hi_X0 hown hK hP 0 rfl rfl 0 (by decide) (hts (.fieldLink RX0 9 "Coldaisle$Hall" "temperature" "[I") (by decide +kernel)) (fun _ h9 => h9) rfl dX0_init_70 ?_
      refine lv_iload_n hx hb dX0_init_73 rfl (lv_at hl 1 rfl) ?_
      refine lv_sipush (v := nI 2000) hx hb dX0_init_74 (by decide +kernel) ?_
      refine k_iast hx hb hK hP hD hS 1 0 rfl rfl (i := z) (x := nI 2000) (by omega) (by decide) dX0_init_77 (fun H locs hP hD hS => ?_)
      have hP : va_P D vwCl ([(h0, .inr (0, [.ref q7, .ref q15, .ref q23, .ref q31, .ref q39, .ref q49, .int (nI 0)])), (q7, .inl (cI, 6, .inl (upd (mFl z (fun _ => nI 2000) (fun _ => nI 0)) z (nI 2000)))), (q15, .inl (cI, 6, .inl (fun _ => nI 0))), (q23, .inl (cI, 6, .inl (fun _ => nI 0))), (q31, .inl (cZ, 8, .inl (fun _ => nI 0))), (q39, .inl (cI, 8, .inl (fun _ => nI 0))), (q49, .inl (cO, 9, .inr (.inr (.inr (.inr (fun i => some (r49 i)))))))] ++ (rws cI 8 9 r49 (fun _ _ => nI 0) ++ [])) H := hP
      have hD : va_D A ([(h0, .inr (0, [.ref q7, .ref q15, .ref q23, .ref q31, .ref q39, .ref q49, .int (nI 0)])), (q7, .inl (cI, 6, .inl (upd (mFl z (fun _ => nI 2000) (fun _ => nI 0)) z (nI 2000)))), (q15, .inl (cI, 6, .inl (fun _ => nI 0))), (q23, .inl (cI, 6, .inl (fun _ => nI 0))), (q31, .inl (cZ, 8, .inl (fun _ => nI 0))), (q39, .inl (cI, 8, .inl (fun _ => nI 0))), (q49, .inl (cO, 9, .inr (.inr (.inr (.inr (fun i => some (r49 i)))))))] ++ (rws cI 8 9 r49 (fun _ _ => nI 0) ++ [])) := hD
      have hP : va_P D vwCl ([(h0, .inr (0, [.ref q7, .ref q15, .ref q23, .ref q31, .ref q39, .ref q49, .int (nI 0)])), (q7, .inl (cI, 6, .inl (mFl (z + 1) (fun _ => nI 2000) (fun _ => nI 0)))), (q15, .inl (cI, 6, .inl (fun _ => nI 0))), (q23, .inl (cI, 6, .inl (fun _ => nI 0))), (q31, .inl (cZ, 8, .inl (fun _ => nI 0))), (q39, .inl (cI, 8, .inl (fun _ => nI 0))), (q49, .inl (cO, 9, .inr (.inr (.inr (.inr (fun i => some (r49 i)))))))] ++ (rws cI 8 9 r49 (fun _ _ => nI 0) ++ [])) H := by rw [← mFl_up z (fun _ => nI 2000) (fun _ => nI 0)]; exact hP
      have hD : va_D A ([(h0, .inr (0, [.ref q7, .ref q15, .ref q23, .ref q31, .ref q39, .ref q49, .int (nI 0)])), (q7, .inl (cI, 6, .inl (mFl (z + 1) (fun _ => nI 2000) (fun _ => nI 0)))), (q15, .inl (cI, 6, .inl (fun _ => nI 0))), (q23, .inl (cI, 6, .inl (fun _ => nI 0))), (q31, .inl (cZ, 8, .inl (fun _ => nI 0))), (q39, .inl (cI, 8, .inl (fun _ => nI 0))), (q49, .inl (cO, 9, .inr (.inr (.inr (.inr (fun i => some (r49 i)))))))] ++ (rws cI 8 9 r49 (fun _ _ => nI 0) ++ [])) := by rw [← mFl_up z (fun _ => nI 2000) (fun _ => nI 0)]; exact hD
      refine lv_iinc (v := nI (z + 1)) (lv' := [(1, .int (nI (z + 1))), (0, .ref h0)]) hx hb dX0_init_78 hl (k := 1) rfl (k_inc _) (by decide) rfl (fun ls hl => ?_)
      refine lv_goto (tgt := 63) hx hb dX0_init_81 (by decide) ?_
      exact ih (z + 1) (by omega) H locs hP hD hS ls (lv_sub hl [1, 0] rfl)
  exact lp 6 0 rfl H locs (by simp only [mFl_0]; exact hP) (by simp only [mFl_0]; exact hD) hS ls (lv_sub hl [1, 0] rfl)

abbrev rmX2_init : Room := { frames := 2, cells := 45, slots := 326, locals := 70 }
set_option maxHeartbeats 8000000 in
set_option maxRecDepth 100000 in
/-- a new X2 -/
theorem c_X2_init (l : Launch) (D : va_G) (cI cZ cO cJ : ClassId) (h0 sz : Nat) : kMC l yX2_init wsX2_init rmX2_init D (kT cI cZ cO cJ) [.ref h0] ([(h0, .inr (2, [.null, .null, .null, .null, .int 0]))]) (fun u => wC cI cZ cO (fun i => u (4 * i)) (fun i => u (4 * i + 1)) (fun i => u (4 * i + 2)) (fun i => u (4 * i + 3)) 0 (fun _ => nI 0) (mFl 6 (fun _ => nI 2000) (fun _ => nI 0)) (fun _ => nI 0) (fun _ => nI 0) (fun _ => nI 0) (fun _ => nI 0) (fun _ _ => nI 0) 0 (mFl 6 (fun _ => nI 2000) (fun _ => nI 0)) (fun _ => nI 0) (fun _ => nI 0) (fun _ => nI 0) (fun _ => nI 0) (fun _ _ => nI 0) 0 (fun _ => nI 0) (mFl 6 (fun _ => nI 2200) (fun _ => nI 0)) (iEf 6) (nI 20) (nI 10) (nI 2500) (nI 2700) 2) (fun u => u 0 = h0) 45 326 sz := by
  refine kEnterC (cc := cX2_init) (maxL := 1) (ret := none) (by decide +kernel) rfl (Nat.le_of_ble_eq_true rfl) ?_
  intro p e s m below meth c args hx hb hr hml hts hown hlocks hin hK hN hO A hA9 Q hQ9 hP hD hsz hS hA ls hl
  have hl : lv_has ls 1 [(0, .ref h0)] := hl
  have hi_X2 : ∀ w ∈ u_ws RX2 TX2 5, w ∈ wsX2_init := by decide +kernel
  obtain ⟨H, hH9⟩ : ∃ H, H = s.heap := ⟨_, rfl⟩
  rw [← hH9] at hP ⊢
  have hS : va_S A s.heap H [] := by rw [hH9]; exact va_S.rf
  refine lv_aload_n hx hb dX2_init_0 rfl (lv_at hl 0 rfl) ?_
  refine W.objInit hx hb hown (hts (.methodLink RX2 1 objectInit) (by decide +kernel)) (hts (.instanceMethod objectInit) (by decide +kernel)) (hts (.code objectInit ⟨#[0xb1]⟩ 1 none) (by decide +kernel)) rfl (by rw [hml]; exact hl.1) rfl dX2_init_1 (Nat.le_of_ble_eq_true rfl) (Nat.le_of_ble_eq_true rfl) ?_
  refine W.eq (g2 := F0 m 4 ls []) rfl ?_
  refine lv_aload_n hx hb dX2_init_4 rfl (lv_at hl 0 rfl) ?_
  have hi_X1 : ∀ w ∈ u_ws RX1 TX1 8, w ∈ wsX2_init := by decide +kernel
  have hi_X0 : ∀ w ∈ u_ws RX0 TX0 7, w ∈ wsX2_init := by decide +kernel
  refine va_new (ci := 1) (fs := [.null, .null, .null, .int 0, .int 0, .int 0, .int 0, .int 0]) (C := RX1) (T := TX1) (N := 8) hx hb hts hi_X1 tyX1 tyX1_ok hown (hts (.classLink RX2 7 RX1) (by decide +kernel)) (hts (.instantiable RX1 8) (by decide +kernel)) (hts (.initialized RX1) (by decide +kernel)) hK hP hD hS hA rfl (fun j hj => by rcases (show j = 0 ∨ j = 1 ∨ j = 2 ∨ j = 3 ∨ j = 4 ∨ j = 5 ∨ j = 6 ∨ j = 7 by omega) with rfl | rfl | rfl | rfl | rfl | rfl | rfl | rfl <;> rfl) (Nat.le_of_ble_eq_true rfl) (Nat.le_of_ble_eq_true rfl) dX2_init_5 (fun b0 H hP hD hS => ?_)
  refine W.widen (k := 1) (n := 8) (by decide) (by decide) ?_
  have hP : va_P D vwCl ([(h0, .inr (2, [.null, .null, .null, .null, .int 0]))] ++ [(b0, .inr (1, [.null, .null, .null, .int 0, .int 0, .int 0, .int 0, .int 0]))]) H := hP
  refine lv_dup hx hb dX2_init_8 rfl ?_
  refine kCallC (W0 := [(b0, .inr (1, [.null, .null, .null, .int 0, .int 0, .int 0, .int 0, .int 0]))]) (wr := [(h0, .inr (2, [.null, .null, .null, .null, .int 0]))]) hP hD hS hA [1] [0] rfl rfl (by decide) (by decide) (va_runI (As := []) (rest := [.ref b0, .ref h0]) ⟨hx, hb, hml, hown, hts⟩ (c_X1_init l D cI cZ cO cJ b0 H.size) (cwI (rm := rmX1_init) 0 hts gX2_init_X1_init rfl rfl rfl (hts (.initialized RX1) (by decide +kernel)) (hts (.methodLink RX2 9 yX1_init) (by decide +kernel)) (hts (.instanceMethod yX1_init) (by decide +kernel)) rfl (by decide +kernel) ⟨Nat.le_of_ble_eq_true rfl, Nat.le_of_ble_eq_true rfl⟩) (kPreIC hK hN hO hP hD [1] (by decide) rfl) rfl rfl hl.1 rfl (lv_room (Nat.le_of_ble_eq_true rfl)) dX2_init_9 ⟨Nat.le_of_ble_eq_true rfl, Nat.le_of_ble_eq_true rfl⟩) (fun b H locs hu hP hD hS => ?_)
  refine W.widen (k := 12) (n := 76) (by decide) (by decide) ?_
  rw [← hu]
  refine va_putF (D := D) (ci := 2) (v := .ref (b 0)) (ty := tyX2 0) (C := RX2) (T := TX2) (N := 5) hx hb hts hi_X2 tyX2 tyX2_ok nmX2 hown hK hP hD hS 0 rfl rfl 0 (by decide) (hts (.fieldLink RX2 10 "Coldaisle" "settings" "LColdaisle$Settings;") (by decide +kernel)) (fun _ h9 => h9) rfl hin rfl (by decide +kernel) rfl rfl (Nat.le_of_ble_eq_true rfl) dX2_init_12 (fun H locs hP hD hS => ?_)
  have hP : va_P D vwCl ([(h0, .inr (2, [.ref (b 0), .null, .null, .null, .int 0]))] ++ wS cI cO b (fun _ => nI 0) (mFl 6 (fun _ => nI 2200) (fun _ => nI 0)) (iEf 6) (nI 20) (nI 10) (nI 2500) (nI 2700) 2) H := hP
  have hD : va_D A ([(h0, .inr (2, [.ref (b 0), .null, .null, .null, .int 0]))] ++ wS cI cO b (fun _ => nI 0) (mFl 6 (fun _ => nI 2200) (fun _ => nI 0)) (iEf 6) (nI 20) (nI 10) (nI 2500) (nI 2700) 2) := hD
  refine lv_aload_n hx hb dX2_init_15 rfl (lv_at hl 0 rfl) ?_
  refine va_new (ci := 0) (fs := [.null, .null, .null, .null, .null, .null, .int 0]) (C := RX0) (T := TX0) (N := 7) hx hb hts hi_X0 tyX0 tyX0_ok hown (hts (.classLink RX2 16 RX0) (by decide +kernel)) (hts (.instantiable RX0 7) (by decide +kernel)) (hts (.initialized RX0) (by decide +kernel)) hK hP hD hS hA rfl (fun j hj => by rcases (show j = 0 ∨ j = 1 ∨ j = 2 ∨ j = 3 ∨ j = 4 ∨ j = 5 ∨ j = 6 by omega) with rfl | rfl | rfl | rfl | rfl | rfl | rfl <;> rfl) (Nat.le_of_ble_eq_true rfl) (Nat.le_of_ble_eq_true rfl) dX2_init_16 (fun a0 H hP hD hS => ?_)
  refine W.widen (k := 13) (n := 83) (by decide) (by decide) ?_
  have hP : va_P D vwCl ([(h0, .inr (2, [.ref (b 0), .null, .null, .null, .int 0]))] ++ wS cI cO b (fun _ => nI 0) (mFl 6 (fun _ => nI 2200) (fun _ => nI 0)) (iEf 6) (nI 20) (nI 10) (nI 2500) (nI 2700) 2 ++ [(a0, .inr (0, [.null, .null, .null, .null, .null, .null, .int 0]))]) H := hP
  refine lv_dup hx hb dX2_init_19 rfl ?_
  refine kCallC (W0 := [(a0, .inr (0, [.null, .null, .null, .null, .null, .null, .int 0]))]) (wr := [(h0, .inr (2, [.ref (b 0), .null, .null, .null, .int 0]))] ++ wS cI cO b (fun _ => nI 0) (mFl 6 (fun _ => nI 2200) (fun _ => nI 0)) (iEf 6) (nI 20) (nI 10) (nI 2500) (nI 2700) 2) hP hD hS hA [13] [0, 1, 2, 3, 4, 5, 6, 7, 8, 9, 10, 11, 12] rfl rfl (by decide) (by decide) (va_runI (As := []) (rest := [.ref a0, .ref h0]) ⟨hx, hb, hml, hown, hts⟩ (c_X0_init l D cI cZ cO cJ a0 H.size) (cwI (rm := rmX0_init) 0 hts gX2_init_X0_init rfl rfl rfl (hts (.initialized RX0) (by decide +kernel)) (hts (.methodLink RX2 18 yX0_init) (by decide +kernel)) (hts (.instanceMethod yX0_init) (by decide +kernel)) rfl (by decide +kernel) ⟨Nat.le_of_ble_eq_true rfl, Nat.le_of_ble_eq_true rfl⟩) (kPreIC hK hN hO hP hD [13] (by decide) rfl) rfl rfl hl.1 rfl (lv_room (Nat.le_of_ble_eq_true rfl)) dX2_init_20 ⟨Nat.le_of_ble_eq_true rfl, Nat.le_of_ble_eq_true rfl⟩) (fun a H locs hu hP hD hS => ?_)
  refine W.widen (k := 28) (n := 198) (by decide) (by decide) ?_
  rw [← hu]
  refine va_putF (D := D) (ci := 2) (v := .ref (a 0)) (ty := tyX2 1) (C := RX2) (T := TX2) (N := 5) hx hb hts hi_X2 tyX2 tyX2_ok nmX2 hown hK hP hD hS 0 rfl rfl 1 (by decide) (hts (.fieldLink RX2 19 "Coldaisle" "hall" "LColdaisle$Hall;") (by decide +kernel)) (fun _ h9 => h9) rfl hin rfl (by decide +kernel) rfl rfl (Nat.le_of_ble_eq_true rfl) dX2_init_23 (fun H locs hP hD hS => ?_)
  have hP : va_P D vwCl (([(h0, .inr (2, [.ref (b 0), .ref (a 0), .null, .null, .int 0]))] ++ wS cI cO b (fun _ => nI 0) (mFl 6 (fun _ => nI 2200) (fun _ => nI 0)) (iEf 6) (nI 20) (nI 10) (nI 2500) (nI 2700) 2) ++ wHa cI cZ cO a (mFl 6 (fun _ => nI 2000) (fun _ => nI 0)) (fun _ => nI 0) (fun _ => nI 0) (fun _ => nI 0) (fun _ => nI 0) (fun _ _ => nI 0) 0) H := hP
  have hD : va_D A (([(h0, .inr (2, [.ref (b 0), .ref (a 0), .null, .null, .int 0]))] ++ wS cI cO b (fun _ => nI 0) (mFl 6 (fun _ => nI 2200) (fun _ => nI 0)) (iEf 6) (nI 20) (nI 10) (nI 2500) (nI 2700) 2) ++ wHa cI cZ cO a (mFl 6 (fun _ => nI 2000) (fun _ => nI 0)) (fun _ => nI 0) (fun _ => nI 0) (fun _ => nI 0) (fun _ => nI 0) (fun _ _ => nI 0) 0) := hD
  refine lv_aload_n hx hb dX2_init_26 rfl (lv_at hl 0 rfl) ?_
  refine va_new (ci := 0) (fs := [.null, .null, .null, .null, .null, .null, .int 0]) (C := RX0) (T := TX0) (N := 7) hx hb hts hi_X0 tyX0 tyX0_ok hown (hts (.classLink RX2 16 RX0) (by decide +kernel)) (hts (.instantiable RX0 7) (by decide +kernel)) (hts (.initialized RX0) (by decide +kernel)) hK hP hD hS hA rfl (fun j hj => by rcases (show j = 0 ∨ j = 1 ∨ j = 2 ∨ j = 3 ∨ j = 4 ∨ j = 5 ∨ j = 6 by omega) with rfl | rfl | rfl | rfl | rfl | rfl | rfl <;> rfl) (Nat.le_of_ble_eq_true rfl) (Nat.le_of_ble_eq_true rfl) dX2_init_27 (fun t0 H hP hD hS => ?_)
  refine W.widen (k := 29) (n := 205) (by decide) (by decide) ?_
  have hP : va_P D vwCl (([(h0, .inr (2, [.ref (b 0), .ref (a 0), .null, .null, .int 0]))] ++ wS cI cO b (fun _ => nI 0) (mFl 6 (fun _ => nI 2200) (fun _ => nI 0)) (iEf 6) (nI 20) (nI 10) (nI 2500) (nI 2700) 2) ++ wHa cI cZ cO a (mFl 6 (fun _ => nI 2000) (fun _ => nI 0)) (fun _ => nI 0) (fun _ => nI 0) (fun _ => nI 0) (fun _ => nI 0) (fun _ _ => nI 0) 0 ++ [(t0, .inr (0, [.null, .null, .null, .null, .null, .null, .int 0]))]) H := hP
  refine lv_dup hx hb dX2_init_30 rfl ?_
  refine kCallC (W0 := [(t0, .inr (0, [.null, .null, .null, .null, .null, .null, .int 0]))]) (wr := ([(h0, .inr (2, [.ref (b 0), .ref (a 0), .null, .null, .int 0]))] ++ wS cI cO b (fun _ => nI 0) (mFl 6 (fun _ => nI 2200) (fun _ => nI 0)) (iEf 6) (nI 20) (nI 10) (nI 2500) (nI 2700) 2) ++ wHa cI cZ cO a (mFl 6 (fun _ => nI 2000) (fun _ => nI 0)) (fun _ => nI 0) (fun _ => nI 0) (fun _ => nI 0) (fun _ => nI 0) (fun _ _ => nI 0) 0) hP hD hS hA [29] [0, 1, 2, 3, 4, 5, 6, 7, 8, 9, 10, 11, 12, 13, 14, 15, 16, 17, 18, 19, 20, 21, 22, 23, 24, 25, 26, 27, 28] rfl rfl (by decide) (by decide) (va_runI (As := []) (rest := [.ref t0, .ref h0]) ⟨hx, hb, hml, hown, hts⟩ (c_X0_init l D cI cZ cO cJ t0 H.size) (cwI (rm := rmX0_init) 0 hts gX2_init_X0_init rfl rfl rfl (hts (.initialized RX0) (by decide +kernel)) (hts (.methodLink RX2 18 yX0_init) (by decide +kernel)) (hts (.instanceMethod yX0_init) (by decide +kernel)) rfl (by decide +kernel) ⟨Nat.le_of_ble_eq_true rfl, Nat.le_of_ble_eq_true rfl⟩) (kPreIC hK hN hO hP hD [29] (by decide) rfl) rfl rfl hl.1 rfl (lv_room (Nat.le_of_ble_eq_true rfl)) dX2_init_31 ⟨Nat.le_of_ble_eq_true rfl, Nat.le_of_ble_eq_true rfl⟩) (fun t H locs hu hP hD hS => ?_)
  refine W.widen (k := 44) (n := 320) (by decide) (by decide) ?_
  rw [← hu]
  refine va_putF (D := D) (ci := 2) (v := .ref (t 0)) (ty := tyX2 2) (C := RX2) (T := TX2) (N := 5) hx hb hts hi_X2 tyX2 tyX2_ok nmX2 hown hK hP hD hS 0 rfl rfl 2 (by decide) (hts (.fieldLink RX2 23 "Coldaisle" "trial" "LColdaisle$Hall;") (by decide +kernel)) (fun _ h9 => h9) rfl hin rfl (by decide +kernel) rfl rfl (Nat.le_of_ble_eq_true rfl) dX2_init_34 (fun H locs hP hD hS => ?_)
  have hP : va_P D vwCl ((([(h0, .inr (2, [.ref (b 0), .ref (a 0), .ref (t 0), .null, .int 0]))] ++ wS cI cO b (fun _ => nI 0) (mFl 6 (fun _ => nI 2200) (fun _ => nI 0)) (iEf 6) (nI 20) (nI 10) (nI 2500) (nI 2700) 2) ++ wHa cI cZ cO a (mFl 6 (fun _ => nI 2000) (fun _ => nI 0)) (fun _ => nI 0) (fun _ => nI 0) (fun _ => nI 0) (fun _ => nI 0) (fun _ _ => nI 0) 0) ++ wHa cI cZ cO t (mFl 6 (fun _ => nI 2000) (fun _ => nI 0)) (fun _ => nI 0) (fun _ => nI 0) (fun _ => nI 0) (fun _ => nI 0) (fun _ _ => nI 0) 0) H := hP
  have hD : va_D A ((([(h0, .inr (2, [.ref (b 0), .ref (a 0), .ref (t 0), .null, .int 0]))] ++ wS cI cO b (fun _ => nI 0) (mFl 6 (fun _ => nI 2200) (fun _ => nI 0)) (iEf 6) (nI 20) (nI 10) (nI 2500) (nI 2700) 2) ++ wHa cI cZ cO a (mFl 6 (fun _ => nI 2000) (fun _ => nI 0)) (fun _ => nI 0) (fun _ => nI 0) (fun _ => nI 0) (fun _ => nI 0) (fun _ _ => nI 0) 0) ++ wHa cI cZ cO t (mFl 6 (fun _ => nI 2000) (fun _ => nI 0)) (fun _ => nI 0) (fun _ => nI 0) (fun _ => nI 0) (fun _ => nI 0) (fun _ _ => nI 0) 0) := hD
  refine lv_aload_n hx hb dX2_init_37 rfl (lv_at hl 0 rfl) ?_
  refine lv_bipush (v := nI 6) hx hb dX2_init_38 (by decide +kernel) ?_
  refine k_newa hx hb (atype := .int) (hts (.arrayClass .int) (by decide +kernel)) .int rfl rfl hK 0 rfl hP hD hS hA 6 (by decide) (a0 := (6, .inl (fun _ => nI 0))) (fun _ => rfl) (by decide) (Nat.le_of_ble_eq_true rfl) (Nat.le_of_ble_eq_true rfl) dX2_init_40 (fun q9 H hP hD hS => ?_)
  refine W.widen (k := 45) (n := 326) (by decide) (by decide) ?_
  refine va_putF (D := D) (ci := 2) (v := .ref q9) (ty := tyX2 3) (C := RX2) (T := TX2) (N := 5) hx hb hts hi_X2 tyX2 tyX2_ok nmX2 hown hK hP hD hS 0 rfl rfl 3 (by decide) (hts (.fieldLink RX2 26 "Coldaisle" "hotMinutes" "[I") (by decide +kernel)) (fun _ h9 => h9) rfl hin rfl (by decide +kernel) rfl rfl (Nat.le_of_ble_eq_true rfl) dX2_init_42 (fun H locs hP hD hS => ?_)
  have hP : va_P D vwCl (((([(h0, .inr (2, [.ref (b 0), .ref (a 0), .ref (t 0), .ref q9, .int 0]))] ++ wS cI cO b (fun _ => nI 0) (mFl 6 (fun _ => nI 2200) (fun _ => nI 0)) (iEf 6) (nI 20) (nI 10) (nI 2500) (nI 2700) 2) ++ wHa cI cZ cO a (mFl 6 (fun _ => nI 2000) (fun _ => nI 0)) (fun _ => nI 0) (fun _ => nI 0) (fun _ => nI 0) (fun _ => nI 0) (fun _ _ => nI 0) 0) ++ wHa cI cZ cO t (mFl 6 (fun _ => nI 2000) (fun _ => nI 0)) (fun _ => nI 0) (fun _ => nI 0) (fun _ => nI 0) (fun _ => nI 0) (fun _ _ => nI 0) 0) ++ [(q9, .inl (cI, 6, .inl (fun _ => nI 0)))]) H := hP
  have hD : va_D A (((([(h0, .inr (2, [.ref (b 0), .ref (a 0), .ref (t 0), .ref q9, .int 0]))] ++ wS cI cO b (fun _ => nI 0) (mFl 6 (fun _ => nI 2200) (fun _ => nI 0)) (iEf 6) (nI 20) (nI 10) (nI 2500) (nI 2700) 2) ++ wHa cI cZ cO a (mFl 6 (fun _ => nI 2000) (fun _ => nI 0)) (fun _ => nI 0) (fun _ => nI 0) (fun _ => nI 0) (fun _ => nI 0) (fun _ _ => nI 0) 0) ++ wHa cI cZ cO t (mFl 6 (fun _ => nI 2000) (fun _ => nI 0)) (fun _ => nI 0) (fun _ => nI 0) (fun _ => nI 0) (fun _ => nI 0) (fun _ _ => nI 0) 0) ++ [(q9, .inl (cI, 6, .inl (fun _ => nI 0)))]) := hD
  refine lv_aload_n hx hb dX2_init_45 rfl (lv_at hl 0 rfl) ?_
  refine lv_iconst (v := nI 0) hx hb dX2_init_46 (by decide +kernel) ?_
  refine va_put (D := D) (ci := 2) (v := .int (nI 0)) (ty := tyX2 4) (C := RX2) (T := TX2) (N := 5) hx hb hts hi_X2 tyX2 tyX2_ok nmX2 hown hK hP hD hS 0 rfl rfl 4 (by decide) (hts (.fieldLink RX2 30 "Coldaisle" "clock" "I") (by decide +kernel)) (fun _ h9 => h9) rfl (by decide +kernel) rfl rfl (Nat.le_of_ble_eq_true rfl) dX2_init_47 (fun H locs hP hD hS => ?_)
  have hP : va_P D vwCl (((([(h0, .inr (2, [.ref (b 0), .ref (a 0), .ref (t 0), .ref q9, .int (nI 0)]))] ++ wS cI cO b (fun _ => nI 0) (mFl 6 (fun _ => nI 2200) (fun _ => nI 0)) (iEf 6) (nI 20) (nI 10) (nI 2500) (nI 2700) 2) ++ wHa cI cZ cO a (mFl 6 (fun _ => nI 2000) (fun _ => nI 0)) (fun _ => nI 0) (fun _ => nI 0) (fun _ => nI 0) (fun _ => nI 0) (fun _ _ => nI 0) 0) ++ wHa cI cZ cO t (mFl 6 (fun _ => nI 2000) (fun _ => nI 0)) (fun _ => nI 0) (fun _ => nI 0) (fun _ => nI 0) (fun _ => nI 0) (fun _ _ => nI 0) 0) ++ [(q9, .inl (cI, 6, .inl (fun _ => nI 0)))]) H := hP
  have hD : va_D A (((([(h0, .inr (2, [.ref (b 0), .ref (a 0), .ref (t 0), .ref q9, .int (nI 0)]))] ++ wS cI cO b (fun _ => nI 0) (mFl 6 (fun _ => nI 2200) (fun _ => nI 0)) (iEf 6) (nI 20) (nI 10) (nI 2500) (nI 2700) 2) ++ wHa cI cZ cO a (mFl 6 (fun _ => nI 2000) (fun _ => nI 0)) (fun _ => nI 0) (fun _ => nI 0) (fun _ => nI 0) (fun _ => nI 0) (fun _ _ => nI 0) 0) ++ wHa cI cZ cO t (mFl 6 (fun _ => nI 2000) (fun _ => nI 0)) (fun _ => nI 0) (fun _ => nI 0) (fun _ => nI 0) (fun _ => nI 0) (fun _ _ => nI 0) 0) ++ [(q9, .inl (cI, 6, .inl (fun _ => nI 0)))]) := hD
  have hC9 : ([0, 45, 13, 14, 15, 16, 17, 18, 19, 29, 30, 31, 32, 33, 34, 35, 1, 2, 3, 4, 20, 21, 22, 23, 24, 25, 26, 27, 28, 36, 37, 38, 39, 40, 41, 42, 43, 44, 5, 6, 7, 8, 9, 10, 11, 12]).map (fun i => (((([(h0, .inr (2, [.ref (b 0), .ref (a 0), .ref (t 0), .ref q9, .int (nI 0)]))] ++ wS cI cO b (fun _ => nI 0) (mFl 6 (fun _ => nI 2200) (fun _ => nI 0)) (iEf 6) (nI 20) (nI 10) (nI 2500) (nI 2700) 2) ++ wHa cI cZ cO a (mFl 6 (fun _ => nI 2000) (fun _ => nI 0)) (fun _ => nI 0) (fun _ => nI 0) (fun _ => nI 0) (fun _ => nI 0) (fun _ _ => nI 0) 0) ++ wHa cI cZ cO t (mFl 6 (fun _ => nI 2000) (fun _ => nI 0)) (fun _ => nI 0) (fun _ => nI 0) (fun _ => nI 0) (fun _ => nI 0) (fun _ _ => nI 0) 0) ++ [(q9, .inl (cI, 6, .inl (fun _ => nI 0)))])[i]?) = (wC cI cZ cO (fun i => if i = 0 then h0 else q9) a t b 0 (fun _ => nI 0) (mFl 6 (fun _ => nI 2000) (fun _ => nI 0)) (fun _ => nI 0) (fun _ => nI 0) (fun _ => nI 0) (fun _ => nI 0) (fun _ _ => nI 0) 0 (mFl 6 (fun _ => nI 2000) (fun _ => nI 0)) (fun _ => nI 0) (fun _ => nI 0) (fun _ => nI 0) (fun _ => nI 0) (fun _ _ => nI 0) 0 (fun _ => nI 0) (mFl 6 (fun _ => nI 2200) (fun _ => nI 0)) (iEf 6) (nI 20) (nI 10) (nI 2500) (nI 2700) 2).map some := rfl
  have hP := kcutP hP [0, 45, 13, 14, 15, 16, 17, 18, 19, 29, 30, 31, 32, 33, 34, 35, 1, 2, 3, 4, 20, 21, 22, 23, 24, 25, 26, 27, 28, 36, 37, 38, 39, 40, 41, 42, 43, 44, 5, 6, 7, 8, 9, 10, 11, 12] hC9
  have hD := hD.sub [0, 45, 13, 14, 15, 16, 17, 18, 19, 29, 30, 31, 32, 33, 34, 35, 1, 2, 3, 4, 20, 21, 22, 23, 24, 25, 26, 27, 28, 36, 37, 38, 39, 40, 41, 42, 43, 44, 5, 6, 7, 8, 9, 10, 11, 12] (by decide) hC9
  subst hQ9
  subst hA9
  exact kRetC (W1 := fun u => wC cI cZ cO (fun i => u (4 * i)) (fun i => u (4 * i + 1)) (fun i => u (4 * i + 2)) (fun i => u (4 * i + 3)) 0 (fun _ => nI 0) (mFl 6 (fun _ => nI 2000) (fun _ => nI 0)) (fun _ => nI 0) (fun _ => nI 0) (fun _ => nI 0) (fun _ => nI 0) (fun _ _ => nI 0) 0 (mFl 6 (fun _ => nI 2000) (fun _ => nI 0)) (fun _ => nI 0) (fun _ => nI 0) (fun _ => nI 0) (fun _ => nI 0) (fun _ _ => nI 0) 0 (fun _ => nI 0) (mFl 6 (fun _ => nI 2200) (fun _ => nI 0)) (iEf 6) (nI 20) (nI 10) (nI 2500) (nI 2700) 2) (P := fun u => u 0 = h0) (kFour (fun i => if i = 0 then h0 else q9) a t b) rfl hx hb hr hlocks (by rw [kFour_0, kFour_1, kFour_2, kFour_3]; exact hP) (by rw [kFour_0, kFour_1, kFour_2, kFour_3]; exact hD) hS dX2_init_50

