/-! ===== a minute, as the law asks it ===== -/
abbrev rmL_isMinute : Room := { frames := 6, cells := 0, slots := 0, locals := 140 }
def MC (p : Program) (l : Launch) (s : State) (m : MethodId) (args : Array Value) (c : Code) (D : va_G) (cI cZ cO cJ : ClassId) (A : Nat → Prop) : Prop :=
  p.tables.exec = Jvm.exec ∧ c.code = cL_isMinute ∧ c.maxLocals = 20 ∧ (∀ w ∈ wsL_isMinute, w.before args s = true) ∧ s.vm.findClass RL = some m.cls ∧ va_K D vwCl (kT cI cZ cO cJ) s ∧ kN s ∧ kX A s s.heap ∧ va_Nc nISE nIAE s ∧ (∀ q : Nat, s.heap.size ≤ q → A q)
section IM
variable {p : Program} {l : Launch} {e : Env} {s : State} {m : MethodId} {args : Array Value} {below : List Frame} {meth : Method} {c : Code} {Q : State → Prop} {D : va_G} {cI cZ cO cJ : ClassId} {x a t b : Nat → Nat} {ap ae az : Nat} {A : Nat → Prop} {q : QS} {pf ef zf : Nat → Int32} {B : Nat}
set_option maxHeartbeats 4000000 in
set_option maxRecDepth 100000 in
theorem im_728 {k : Nat} (h0 : MC p l s m args c D cI cZ cO cJ A) (hQ : QOK q) (hQ1 : QOK (qPass q 1)) (hck : qK q + 1 ≤ 100000) (hp : PR pf q B) (hE : ER ef q) (hZ : ZR zf q) (hkb : k < 8) (kk : ∀ (ρ : HS) (H : Heap) (locs : List Loc), va_P D vwCl (wQ cI cZ cO x a t b (qPass q 1) ρ ++ [(ap, .inl (cI, 6, .inl pf)), (ae, .inl (cI, 48, .inl ef)), (az, .inl (cI, 30, .inl (zM q zf 6)))]) H → va_D A (wQ cI cZ cO x a t b (qPass q 1) ρ ++ [(ap, .inl (cI, 6, .inl pf)), (ae, .inl (cI, 48, .inl ef)), (az, .inl (cI, 30, .inl (zM q zf 6)))]) → va_S A s.heap H locs → ∀ ls : Array Slot, lv_has ls 20 [(0, .ref (x 0)), (1, .ref ae), (2, .ref az), (3, .ref ap), (4, .int (mNot (qli q) (sT (qσ (qPass q 1))) 6)), (7, .int (mNot (qli q) (sT (qσ (qPass q 1))) 6)), (8, .int (nI 1)), (9, .int (nI (k + 1)))] → W p l e rmL_isMinute s m args below meth c H locs 0 0 Q (F0 m 616 ls [])) : ∀ (ρ : HS) (H : Heap) (locs : List Loc), va_P D vwCl (wQ cI cZ cO x a t b (qPass q 1) ρ ++ [(ap, .inl (cI, 6, .inl pf)), (ae, .inl (cI, 48, .inl ef)), (az, .inl (cI, 30, .inl (zM q zf 6)))]) H → va_D A (wQ cI cZ cO x a t b (qPass q 1) ρ ++ [(ap, .inl (cI, 6, .inl pf)), (ae, .inl (cI, 48, .inl ef)), (az, .inl (cI, 30, .inl (zM q zf 6)))]) → va_S A s.heap H locs → ∀ ls : Array Slot, lv_has ls 20 [(0, .ref (x 0)), (1, .ref ae), (2, .ref az), (3, .ref ap), (4, .int (mNot (qli q) (sT (qσ (qPass q 1))) 6)), (7, .int (mNot (qli q) (sT (qσ (qPass q 1))) 6)), (8, .int (nI 1)), (9, .int (nI k)), (10, .int (mGd (qEf q k) (sD (qσ (qPass q 1))) 6)), (11, .int (nI 6))] → W p l e rmL_isMinute s m args below meth c H locs 0 0 Q (F0 m 728 ls []) := by
  obtain ⟨hx, hb, hml, hts, hown, hK, hN, hX, hC, hA⟩ := id h0
  intro ρ H locs hP hD hS ls hl
  refine lv_aload_n hx hb dL_isMinute_728 rfl (lv_at hl 0 rfl) ?_
  refine kCallP_i (mc := 0) (ms := 0) (W1 := fun _ : Unit => wQ cI cZ cO x a t b (qPass q 1) ρ) (fun _ _ h => h) hP hD hS hA (fun _ => rfl) (va_runV (As := []) (rest := []) ⟨hx, hb, hml, hown, hts⟩ (c_X2_clock l D cI cZ cO cJ x a t b (qK (qPass q 1)) (qHo (qPass q 1)) (sT (qσ (qPass q 1))) (sE (qσ (qPass q 1))) (sD (qσ (qPass q 1))) (sF (qσ (qPass q 1))) (sS (qσ (qPass q 1))) (sC (qσ (qPass q 1))) (sL (qσ (qPass q 1))) (sT ρ) (sE ρ) (sD ρ) (sF ρ) (sS ρ) (sC ρ) (sL ρ) (qLo (qPass q 1)) (qSe (qPass q 1)) (qEf (qPass q 1)) (qgp (qPass q 1)) (qgi (qPass q 1)) (qam (qPass q 1)) (qli (qPass q 1)) (qdl (qPass q 1)) H.size ) (cwV (rm := rmX2_clock) 0 hts gL_isMinute_X2_clock rfl rfl rfl (by decide +kernel) ⟨Nat.le_of_ble_eq_true rfl, Nat.le_of_ble_eq_true rfl⟩) (kPreVW hK hN (pfP hP) (pfD hD) (va_recv hK (pfP hP) (ci := 2) (q0 := 0) rfl rfl)) rfl rfl hl.1 rfl (lv_room (Nat.le_of_ble_eq_true rfl)) dL_isMinute_729 ⟨Nat.zero_le _, Nat.zero_le _⟩) (fun r9 u9 H locs hr9 hP hD hS => ?_)
  have hr9 : r9 = nI (qK (qPass q 1)) := hr9
  subst hr9
  refine lv_aload_n hx hb dL_isMinute_732 rfl (lv_at hl 3 rfl) ?_
  refine lv_iconst (v := nI 4) hx hb dL_isMinute_733 (by decide +kernel) ?_
  refine k_ialdT hx hb hK hP 0 0 rfl rfl (i := 4) (by decide) (by decide) dL_isMinute_734 ?_
  refine k_as (y := nI (qdl q)) hp.2.2.2.2.1 ?_
  by_cases c4 : qdl q < qK q + 1
  · refine lv_icmp_gt (tgt := 747) hx hb dL_isMinute_735 (by decide) (fun _ => ?_) (fun c9 => absurd (nI_lt (show qdl q < qK q + 1 from c4) (show qK q + 1 < 2 ^ 31 by omega)) c9)
    refine lv_iconst (v := nI 1) hx hb dL_isMinute_747 (by decide +kernel) ?_
    refine lv_goto (tgt := 752) hx hb dL_isMinute_748 (by decide) ?_
    refine lv_istore (lv' := [(8, .int (nI 1)), (0, .ref (x 0)), (1, .ref ae), (2, .ref az), (3, .ref ap), (4, .int (mNot (qli q) (sT (qσ (qPass q 1))) 6)), (7, .int (mNot (qli q) (sT (qσ (qPass q 1))) 6)), (9, .int (nI k)), (10, .int (mGd (qEf q k) (sD (qσ (qPass q 1))) 6)), (11, .int (nI 6))]) hx hb dL_isMinute_752 hl (by decide) rfl (fun ls hl => ?_)
    refine lv_iinc (v := nI (k + 1)) (lv' := [(9, .int (nI (k + 1))), (8, .int (nI 1)), (0, .ref (x 0)), (1, .ref ae), (2, .ref az), (3, .ref ap), (4, .int (mNot (qli q) (sT (qσ (qPass q 1))) 6)), (7, .int (mNot (qli q) (sT (qσ (qPass q 1))) 6)), (10, .int (mGd (qEf q k) (sD (qσ (qPass q 1))) 6)), (11, .int (nI 6))]) hx hb dL_isMinute_754 hl (k := 7) rfl (k_inc _) (by decide) rfl (fun ls hl => ?_)
    refine lv_goto (tgt := 616) hx hb dL_isMinute_757 (by decide) ?_
    exact kk ρ H locs hP hD hS ls (lv_sub hl [2, 3, 4, 5, 6, 7, 1, 0] rfl)
  · refine lv_icmp_gt (tgt := 747) hx hb dL_isMinute_735 (by decide) (fun c9 => absurd c9 (nI_nlt (show qK q + 1 ≤ qdl q by omega) (by have := hQ.dl; omega))) (fun _ => ?_)
    refine lv_aload_n hx hb dL_isMinute_738 rfl (lv_at hl 0 rfl) ?_
    refine lv_iload hx hb dL_isMinute_739 (lv_at hl 7 rfl) ?_
    refine kCallP_i (mc := 0) (ms := 0) (W1 := fun _ : Unit => wQ cI cZ cO x a t b (qPass q 1) ρ) (fun _ _ h => h) hP hD hS hA (fun _ => rfl) (va_runV (As := [.int (nI k)]) (rest := []) ⟨hx, hb, hml, hown, hts⟩ (c_X2_speed l D cI cZ cO cJ x a t b (qK (qPass q 1)) (qHo (qPass q 1)) (sT (qσ (qPass q 1))) (sE (qσ (qPass q 1))) (sD (qσ (qPass q 1))) (sF (qσ (qPass q 1))) (sS (qσ (qPass q 1))) (sC (qσ (qPass q 1))) (sL (qσ (qPass q 1))) (sT ρ) (sE ρ) (sD ρ) (sF ρ) (sS ρ) (sC ρ) (sL ρ) (qLo (qPass q 1)) (qSe (qPass q 1)) (qEf (qPass q 1)) (qgp (qPass q 1)) (qgi (qPass q 1)) (qam (qPass q 1)) (qli (qPass q 1)) (qdl (qPass q 1)) k H.size (by omega)) (cwV (rm := rmX2_speed) 1 hts gL_isMinute_X2_speed rfl rfl rfl (by decide +kernel) ⟨Nat.le_of_ble_eq_true rfl, Nat.le_of_ble_eq_true rfl⟩) (kPreVW hK hN (pfP hP) (pfD hD) (va_recv hK (pfP hP) (ci := 2) (q0 := 0) rfl rfl)) rfl rfl hl.1 rfl (lv_room (Nat.le_of_ble_eq_true rfl)) dL_isMinute_741 ⟨Nat.zero_le _, Nat.zero_le _⟩) (fun r9 u9 H locs hr9 hP hD hS => ?_)
    have hr9 : r9 = sS (qσ (qPass q 1)) k := hr9
    subst hr9
    refine lv_if_ne (tgt := 751) hx hb dL_isMinute_744 (by decide) (fun c9 => absurd ((mi_late hQ1 hkb (by omega)).trans nI_0) c9) (fun _ => ?_)
    refine lv_iconst (v := nI 1) hx hb dL_isMinute_747 (by decide +kernel) ?_
    refine lv_goto (tgt := 752) hx hb dL_isMinute_748 (by decide) ?_
    refine lv_istore (lv' := [(8, .int (nI 1)), (0, .ref (x 0)), (1, .ref ae), (2, .ref az), (3, .ref ap), (4, .int (mNot (qli q) (sT (qσ (qPass q 1))) 6)), (7, .int (mNot (qli q) (sT (qσ (qPass q 1))) 6)), (9, .int (nI k)), (10, .int (mGd (qEf q k) (sD (qσ (qPass q 1))) 6)), (11, .int (nI 6))]) hx hb dL_isMinute_752 hl (by decide) rfl (fun ls hl => ?_)
    refine lv_iinc (v := nI (k + 1)) (lv' := [(9, .int (nI (k + 1))), (8, .int (nI 1)), (0, .ref (x 0)), (1, .ref ae), (2, .ref az), (3, .ref ap), (4, .int (mNot (qli q) (sT (qσ (qPass q 1))) 6)), (7, .int (mNot (qli q) (sT (qσ (qPass q 1))) 6)), (10, .int (mGd (qEf q k) (sD (qσ (qPass q 1))) 6)), (11, .int (nI 6))]) hx hb dL_isMinute_754 hl (k := 7) rfl (k_inc _) (by decide) rfl (fun ls hl => ?_)
    refine lv_goto (tgt := 616) hx hb dL_isMinute_757 (by decide) ?_
    exact kk ρ H locs hP hD hS ls (lv_sub hl [2, 3, 4, 5, 6, 7, 1, 0] rfl)

set_option maxHeartbeats 4000000 in
set_option maxRecDepth 100000 in
theorem im_684 {k : Nat} (h0 : MC p l s m args c D cI cZ cO cJ A) (hQ : QOK q) (hQ1 : QOK (qPass q 1)) (hck : qK q + 1 ≤ 100000) (hp : PR pf q B) (hE : ER ef q) (hZ : ZR zf q) (hkb : k < 8) (kk : ∀ (ρ : HS) (H : Heap) (locs : List Loc), va_P D vwCl (wQ cI cZ cO x a t b (qPass q 1) ρ ++ [(ap, .inl (cI, 6, .inl pf)), (ae, .inl (cI, 48, .inl ef)), (az, .inl (cI, 30, .inl (zM q zf 6)))]) H → va_D A (wQ cI cZ cO x a t b (qPass q 1) ρ ++ [(ap, .inl (cI, 6, .inl pf)), (ae, .inl (cI, 48, .inl ef)), (az, .inl (cI, 30, .inl (zM q zf 6)))]) → va_S A s.heap H locs → ∀ ls : Array Slot, lv_has ls 20 [(0, .ref (x 0)), (1, .ref ae), (2, .ref az), (3, .ref ap), (4, .int (mNot (qli q) (sT (qσ (qPass q 1))) 6)), (7, .int (mNot (qli q) (sT (qσ (qPass q 1))) 6)), (8, .int (nI 1)), (9, .int (nI (k + 1)))] → W p l e rmL_isMinute s m args below meth c H locs 0 0 Q (F0 m 616 ls [])) : ∀ (ρ : HS) (H : Heap) (locs : List Loc), va_P D vwCl (wQ cI cZ cO x a t b (qPass q 1) ρ ++ [(ap, .inl (cI, 6, .inl pf)), (ae, .inl (cI, 48, .inl ef)), (az, .inl (cI, 30, .inl (zM q zf 6)))]) H → va_D A (wQ cI cZ cO x a t b (qPass q 1) ρ ++ [(ap, .inl (cI, 6, .inl pf)), (ae, .inl (cI, 48, .inl ef)), (az, .inl (cI, 30, .inl (zM q zf 6)))]) → va_S A s.heap H locs → ∀ ls : Array Slot, lv_has ls 20 [(0, .ref (x 0)), (1, .ref ae), (2, .ref az), (3, .ref ap), (4, .int (mNot (qli q) (sT (qσ (qPass q 1))) 6)), (7, .int (mNot (qli q) (sT (qσ (qPass q 1))) 6)), (8, .int (nI 1)), (9, .int (nI k)), (10, .int (mGd (qEf q k) (sD (qσ (qPass q 1))) 6)), (11, .int (nI 6))] → W p l e rmL_isMinute s m args below meth c H locs 0 0 Q (F0 m 684 ls []) := by
  obtain ⟨hx, hb, hml, hts, hown, hK, hN, hX, hC, hA⟩ := id h0
  intro ρ H locs hP hD hS ls hl
  refine lv_aload_n hx hb dL_isMinute_684 rfl (lv_at hl 0 rfl) ?_
  refine lv_iload hx hb dL_isMinute_685 (lv_at hl 7 rfl) ?_
  refine kCallP_i (mc := 0) (ms := 0) (W1 := fun _ : Unit => wQ cI cZ cO x a t b (qPass q 1) ρ) (fun _ _ h => h) hP hD hS hA (fun _ => rfl) (va_runV (As := [.int (nI k)]) (rest := []) ⟨hx, hb, hml, hown, hts⟩ (c_X2_command l D cI cZ cO cJ x a t b (qK (qPass q 1)) (qHo (qPass q 1)) (sT (qσ (qPass q 1))) (sE (qσ (qPass q 1))) (sD (qσ (qPass q 1))) (sF (qσ (qPass q 1))) (sS (qσ (qPass q 1))) (sC (qσ (qPass q 1))) (sL (qσ (qPass q 1))) (sT ρ) (sE ρ) (sD ρ) (sF ρ) (sS ρ) (sC ρ) (sL ρ) (qLo (qPass q 1)) (qSe (qPass q 1)) (qEf (qPass q 1)) (qgp (qPass q 1)) (qgi (qPass q 1)) (qam (qPass q 1)) (qli (qPass q 1)) (qdl (qPass q 1)) k H.size (by omega) hQ1.la) (cwV (rm := rmX2_command) 1 hts gL_isMinute_X2_command rfl rfl rfl (by decide +kernel) ⟨Nat.le_of_ble_eq_true rfl, Nat.le_of_ble_eq_true rfl⟩) (kPreVW hK hN (pfP hP) (pfD hD) (va_recv hK (pfP hP) (ci := 2) (q0 := 0) rfl rfl)) rfl rfl hl.1 rfl (lv_room (Nat.le_of_ble_eq_true rfl)) dL_isMinute_687 ⟨Nat.zero_le _, Nat.zero_le _⟩) (fun r9 u9 H locs hr9 hP hD hS => ?_)
  have hr9 : r9 = sC (qσ (qPass q 1)) (sL (qσ (qPass q 1))) k := hr9
  subst hr9
  refine lv_iload hx hb dL_isMinute_690 (lv_at hl 8 rfl) ?_
  refine lv_icmp_ne (tgt := 751) hx hb dL_isMinute_692 (by decide) (fun c9 => absurd (mi_cmd hkb) c9) (fun _ => ?_)
  refine lv_aload_n hx hb dL_isMinute_695 rfl (lv_at hl 3 rfl) ?_
  refine lv_iconst (v := nI 4) hx hb dL_isMinute_696 (by decide +kernel) ?_
  refine k_ialdT hx hb hK hP 0 0 rfl rfl (i := 4) (by decide) (by decide) dL_isMinute_697 ?_
  refine k_as (y := nI (qdl q)) hp.2.2.2.2.1 ?_
  by_cases c3 : qdl q = 0
  · refine lv_if_gt (tgt := 728) hx hb dL_isMinute_698 (by decide) (fun c9 => absurd c9 (by rw [c3]; decide +kernel)) (fun _ => ?_)
    refine lv_aload_n hx hb dL_isMinute_701 rfl (lv_at hl 0 rfl) ?_
    refine lv_iload hx hb dL_isMinute_702 (lv_at hl 7 rfl) ?_
    refine kCallP_i (mc := 0) (ms := 0) (W1 := fun _ : Unit => wQ cI cZ cO x a t b (qPass q 1) ρ) (fun _ _ h => h) hP hD hS hA (fun _ => rfl) (va_runV (As := [.int (nI k)]) (rest := []) ⟨hx, hb, hml, hown, hts⟩ (c_X2_speed l D cI cZ cO cJ x a t b (qK (qPass q 1)) (qHo (qPass q 1)) (sT (qσ (qPass q 1))) (sE (qσ (qPass q 1))) (sD (qσ (qPass q 1))) (sF (qσ (qPass q 1))) (sS (qσ (qPass q 1))) (sC (qσ (qPass q 1))) (sL (qσ (qPass q 1))) (sT ρ) (sE ρ) (sD ρ) (sF ρ) (sS ρ) (sC ρ) (sL ρ) (qLo (qPass q 1)) (qSe (qPass q 1)) (qEf (qPass q 1)) (qgp (qPass q 1)) (qgi (qPass q 1)) (qam (qPass q 1)) (qli (qPass q 1)) (qdl (qPass q 1)) k H.size (by omega)) (cwV (rm := rmX2_speed) 1 hts gL_isMinute_X2_speed rfl rfl rfl (by decide +kernel) ⟨Nat.le_of_ble_eq_true rfl, Nat.le_of_ble_eq_true rfl⟩) (kPreVW hK hN (pfP hP) (pfD hD) (va_recv hK (pfP hP) (ci := 2) (q0 := 0) rfl rfl)) rfl rfl hl.1 rfl (lv_room (Nat.le_of_ble_eq_true rfl)) dL_isMinute_704 ⟨Nat.zero_le _, Nat.zero_le _⟩) (fun r9 u9 H locs hr9 hP hD hS => ?_)
    have hr9 : r9 = sS (qσ (qPass q 1)) k := hr9
    subst hr9
    refine lv_aload_n hx hb dL_isMinute_707 rfl (lv_at hl 3 rfl) ?_
    refine lv_iconst (v := nI 5) hx hb dL_isMinute_708 (by decide +kernel) ?_
    refine k_ialdT hx hb hK hP 0 0 rfl rfl (i := 5) (by decide) (by decide) dL_isMinute_709 ?_
    refine lv_iload hx hb dL_isMinute_710 (lv_at hl 7 rfl) ?_
    refine lv_ishr hx hb dL_isMinute_712 ?_
    refine lv_iconst (v := nI 1) hx hb dL_isMinute_713 (by decide +kernel) ?_
    refine lv_iand hx hb dL_isMinute_714 ?_
    refine k_as (y := sF (qσ q) k) (hp.bit (by omega)) ?_
    rcases hQ.F k hkb with hF | hF
    · refine k_as (y := nI 0) hF ?_
      refine lv_iconst (v := nI 1) hx hb dL_isMinute_715 (by decide +kernel) ?_
      refine lv_icmp_ne (tgt := 723) hx hb dL_isMinute_716 (by decide) (fun _ => ?_) (fun c9 => absurd c9 (by decide +kernel))
      refine lv_iload hx hb dL_isMinute_723 (lv_at hl 8 rfl) ?_
      refine lv_icmp_ne (tgt := 751) hx hb dL_isMinute_725 (by decide) (fun c9 => absurd ((mi_spd hQ hkb c3).trans (if_pos (hF.trans nI_0))) c9) (fun _ => ?_)
      exact im_728 h0 hQ hQ1 hck hp hE hZ hkb kk ρ H locs hP hD hS ls (lv_sub hl [0, 1, 2, 3, 4, 5, 6, 7, 8, 9] rfl)
    · refine k_as (y := nI 1) hF ?_
      refine lv_iconst (v := nI 1) hx hb dL_isMinute_715 (by decide +kernel) ?_
      refine lv_icmp_ne (tgt := 723) hx hb dL_isMinute_716 (by decide) (fun c9 => absurd (by decide +kernel) c9) (fun _ => ?_)
      refine lv_iconst (v := nI 0) hx hb dL_isMinute_719 (by decide +kernel) ?_
      refine lv_goto (tgt := 725) hx hb dL_isMinute_720 (by decide) ?_
      refine lv_icmp_ne (tgt := 751) hx hb dL_isMinute_725 (by decide) (fun c9 => absurd ((mi_spd hQ hkb c3).trans (if_neg (by rw [hF]; decide +kernel))) c9) (fun _ => ?_)
      exact im_728 h0 hQ hQ1 hck hp hE hZ hkb kk ρ H locs hP hD hS ls (lv_sub hl [0, 1, 2, 3, 4, 5, 6, 7, 8, 9] rfl)
  · refine lv_if_gt (tgt := 728) hx hb dL_isMinute_698 (by decide) (fun _ => ?_) (fun c9 => absurd (by rw [← nI_0]; exact nI_lt (by omega) (by have := hQ.dl; omega)) c9)
    exact im_728 h0 hQ hQ1 hck hp hE hZ hkb kk ρ H locs hP hD hS ls (lv_sub hl [0, 1, 2, 3, 4, 5, 6, 7, 8, 9] rfl)

set_option maxHeartbeats 4000000 in
set_option maxRecDepth 100000 in
theorem im_634 {k : Nat} (h0 : MC p l s m args c D cI cZ cO cJ A) (hQ : QOK q) (hQ1 : QOK (qPass q 1)) (hck : qK q + 1 ≤ 100000) (hp : PR pf q B) (hE : ER ef q) (hZ : ZR zf q) (hkb : k < 8) (kk : ∀ (ρ : HS) (H : Heap) (locs : List Loc), va_P D vwCl (wQ cI cZ cO x a t b (qPass q 1) ρ ++ [(ap, .inl (cI, 6, .inl pf)), (ae, .inl (cI, 48, .inl ef)), (az, .inl (cI, 30, .inl (zM q zf 6)))]) H → va_D A (wQ cI cZ cO x a t b (qPass q 1) ρ ++ [(ap, .inl (cI, 6, .inl pf)), (ae, .inl (cI, 48, .inl ef)), (az, .inl (cI, 30, .inl (zM q zf 6)))]) → va_S A s.heap H locs → ∀ ls : Array Slot, lv_has ls 20 [(0, .ref (x 0)), (1, .ref ae), (2, .ref az), (3, .ref ap), (4, .int (mNot (qli q) (sT (qσ (qPass q 1))) 6)), (7, .int (mNot (qli q) (sT (qσ (qPass q 1))) 6)), (8, .int (nI 1)), (9, .int (nI (k + 1)))] → W p l e rmL_isMinute s m args below meth c H locs 0 0 Q (F0 m 616 ls [])) : ∀ (ρ : HS) (H : Heap) (locs : List Loc), va_P D vwCl (wQ cI cZ cO x a t b (qPass q 1) ρ ++ [(ap, .inl (cI, 6, .inl pf)), (ae, .inl (cI, 48, .inl ef)), (az, .inl (cI, 30, .inl (zM q zf 6)))]) H → va_D A (wQ cI cZ cO x a t b (qPass q 1) ρ ++ [(ap, .inl (cI, 6, .inl pf)), (ae, .inl (cI, 48, .inl ef)), (az, .inl (cI, 30, .inl (zM q zf 6)))]) → va_S A s.heap H locs → ∀ ls : Array Slot, lv_has ls 20 [(11, .int (nI 0)), (10, .int (nI 0)), (0, .ref (x 0)), (1, .ref ae), (2, .ref az), (3, .ref ap), (4, .int (mNot (qli q) (sT (qσ (qPass q 1))) 6)), (7, .int (mNot (qli q) (sT (qσ (qPass q 1))) 6)), (8, .int (nI 1)), (9, .int (nI k))] → W p l e rmL_isMinute s m args below meth c H locs 0 0 Q (F0 m 634 ls []) := by
  obtain ⟨hx, hb, hml, hts, hown, hK, hN, hX, hC, hA⟩ := id h0
  intro ρ H locs hP hD hS ls hl
  have lt : ∀ (n5 j : Nat), j + n5 = 6 → ∀ ρ : HS, ∀ (H : Heap) (locs : List Loc), va_P D vwCl (wQ cI cZ cO x a t b (qPass q 1) ρ ++ [(ap, .inl (cI, 6, .inl pf)), (ae, .inl (cI, 48, .inl ef)), (az, .inl (cI, 30, .inl (zM q zf 6)))]) H → va_D A (wQ cI cZ cO x a t b (qPass q 1) ρ ++ [(ap, .inl (cI, 6, .inl pf)), (ae, .inl (cI, 48, .inl ef)), (az, .inl (cI, 30, .inl (zM q zf 6)))]) → va_S A s.heap H locs → ∀ ls : Array Slot, lv_has ls 20 [(0, .ref (x 0)), (1, .ref ae), (2, .ref az), (3, .ref ap), (4, .int (mNot (qli q) (sT (qσ (qPass q 1))) 6)), (7, .int (mNot (qli q) (sT (qσ (qPass q 1))) 6)), (8, .int (nI 1)), (9, .int (nI k)), (10, .int (mGd (qEf q k) (sD (qσ (qPass q 1))) j)), (11, .int (nI j))] → W p l e rmL_isMinute s m args below meth c H locs 0 0 Q (F0 m 634 ls []) := by
    intro n5
    induction n5 with
    | zero =>
      intro j hz9 ρ H locs hP hD hS ls hl
      have hz9 : j = 6 := by omega
      subst hz9
      refine lv_iload hx hb dL_isMinute_634 (lv_at hl 9 rfl) ?_
      refine lv_bipush (v := nI 6) hx hb dL_isMinute_636 (by decide +kernel) ?_
      refine lv_icmp_ge (tgt := 684) hx hb dL_isMinute_638 (by decide) (fun _ => ?_) (fun c9 => absurd (nI_le (Nat.le_refl 6) (by decide)) c9)
      exact im_684 h0 hQ hQ1 hck hp hE hZ hkb kk ρ H locs hP hD hS ls (lv_sub hl [0, 1, 2, 3, 4, 5, 6, 7, 8, 9] rfl)
    | succ n5 ih5 =>
      intro j hz9 ρ H locs hP hD hS ls hl
      have hzb : j < 6 := by omega
      refine lv_iload hx hb dL_isMinute_634 (lv_at hl 9 rfl) ?_
      refine lv_bipush (v := nI 6) hx hb dL_isMinute_636 (by decide +kernel) ?_
      refine lv_icmp_ge (tgt := 684) hx hb dL_isMinute_638 (by decide) (fun c9 => absurd c9 (nI_ge hzb (by decide))) (fun _ => ?_)
      refine lv_aload_n hx hb dL_isMinute_641 rfl (lv_at hl 1 rfl) ?_
      refine lv_bipush (v := nI 6) hx hb dL_isMinute_642 (by decide +kernel) ?_
      refine lv_iload hx hb dL_isMinute_644 (lv_at hl 7 rfl) ?_
      refine lv_imul hx hb dL_isMinute_646 ?_
      refine k_as (pk_mul _ _) ?_
      refine lv_iload hx hb dL_isMinute_647 (lv_at hl 9 rfl) ?_
      refine lv_iadd hx hb dL_isMinute_649 ?_
      refine k_as (nI_add _ _) ?_
      refine k_ialdT hx hb hK hP 1 0 rfl rfl (i := 6 * k + j) (by omega) (by decide) dL_isMinute_650 ?_
      refine k_as (y := qEf q k j) (hE k j (by omega) (by omega)) ?_
      refine lv_if_le (tgt := 674) hx hb dL_isMinute_651 (by decide) (fun c1 => ?_) (fun c1 => ?_)
      · refine lv_iload hx hb dL_isMinute_674 (lv_at hl 8 rfl) ?_
        refine k_as (y := mGd (qEf q k) (sD (qσ (qPass q 1))) (j + 1)) (mGd_t _ _ j c1).symm ?_
        refine lv_istore (lv' := [(10, .int (mGd (qEf q k) (sD (qσ (qPass q 1))) (j + 1))), (0, .ref (x 0)), (1, .ref ae), (2, .ref az), (3, .ref ap), (4, .int (mNot (qli q) (sT (qσ (qPass q 1))) 6)), (7, .int (mNot (qli q) (sT (qσ (qPass q 1))) 6)), (8, .int (nI 1)), (9, .int (nI k)), (11, .int (nI j))]) hx hb dL_isMinute_676 hl (by decide) rfl (fun ls hl => ?_)
        refine lv_iinc (v := nI (j + 1)) (lv' := [(11, .int (nI (j + 1))), (10, .int (mGd (qEf q k) (sD (qσ (qPass q 1))) (j + 1))), (0, .ref (x 0)), (1, .ref ae), (2, .ref az), (3, .ref ap), (4, .int (mNot (qli q) (sT (qσ (qPass q 1))) 6)), (7, .int (mNot (qli q) (sT (qσ (qPass q 1))) 6)), (8, .int (nI 1)), (9, .int (nI k))]) hx hb dL_isMinute_678 hl (k := 9) rfl (k_inc _) (by decide) rfl (fun ls hl => ?_)
        refine lv_goto (tgt := 634) hx hb dL_isMinute_681 (by decide) ?_
        exact ih5 (j + 1) (by omega) ρ H locs hP hD hS ls (lv_sub hl [2, 3, 4, 5, 6, 7, 8, 9, 1, 0] rfl)
      · refine lv_aload_n hx hb dL_isMinute_654 rfl (lv_at hl 0 rfl) ?_
        refine lv_iload hx hb dL_isMinute_655 (lv_at hl 9 rfl) ?_
        refine kCallP_i (mc := 0) (ms := 0) (W1 := fun _ : Unit => wQ cI cZ cO x a t b (qPass q 1) ρ) (fun _ _ h => h) hP hD hS hA (fun _ => rfl) (va_runV (As := [.int (nI j)]) (rest := []) ⟨hx, hb, hml, hown, hts⟩ (c_X2_demand l D cI cZ cO cJ x a t b (qK (qPass q 1)) (qHo (qPass q 1)) (sT (qσ (qPass q 1))) (sE (qσ (qPass q 1))) (sD (qσ (qPass q 1))) (sF (qσ (qPass q 1))) (sS (qσ (qPass q 1))) (sC (qσ (qPass q 1))) (sL (qσ (qPass q 1))) (sT ρ) (sE ρ) (sD ρ) (sF ρ) (sS ρ) (sC ρ) (sL ρ) (qLo (qPass q 1)) (qSe (qPass q 1)) (qEf (qPass q 1)) (qgp (qPass q 1)) (qgi (qPass q 1)) (qam (qPass q 1)) (qli (qPass q 1)) (qdl (qPass q 1)) j H.size (by omega)) (cwV (rm := rmX2_demand) 1 hts gL_isMinute_X2_demand rfl rfl rfl (by decide +kernel) ⟨Nat.le_of_ble_eq_true rfl, Nat.le_of_ble_eq_true rfl⟩) (kPreVW hK hN (pfP hP) (pfD hD) (va_recv hK (pfP hP) (ci := 2) (q0 := 0) rfl rfl)) rfl rfl hl.1 rfl (lv_room (Nat.le_of_ble_eq_true rfl)) dL_isMinute_657 ⟨Nat.zero_le _, Nat.zero_le _⟩) (fun r9 u9 H locs hr9 hP hD hS => ?_)
        have hr9 : r9 = sD (qσ (qPass q 1)) j := hr9
        subst hr9
        refine lv_iload hx hb dL_isMinute_660 (lv_at hl 8 rfl) ?_
        refine lv_icmp_le (tgt := 674) hx hb dL_isMinute_662 (by decide) (fun c2 => ?_) (fun c2 => ?_)
        · refine lv_iload hx hb dL_isMinute_674 (lv_at hl 8 rfl) ?_
          refine k_as (y := mGd (qEf q k) (sD (qσ (qPass q 1))) (j + 1)) (by rw [mGd_f (qEf q k) (sD (qσ (qPass q 1))) j c1, mMax_l c2]) ?_
          refine lv_istore (lv' := [(10, .int (mGd (qEf q k) (sD (qσ (qPass q 1))) (j + 1))), (0, .ref (x 0)), (1, .ref ae), (2, .ref az), (3, .ref ap), (4, .int (mNot (qli q) (sT (qσ (qPass q 1))) 6)), (7, .int (mNot (qli q) (sT (qσ (qPass q 1))) 6)), (8, .int (nI 1)), (9, .int (nI k)), (11, .int (nI j))]) hx hb dL_isMinute_676 hl (by decide) rfl (fun ls hl => ?_)
          refine lv_iinc (v := nI (j + 1)) (lv' := [(11, .int (nI (j + 1))), (10, .int (mGd (qEf q k) (sD (qσ (qPass q 1))) (j + 1))), (0, .ref (x 0)), (1, .ref ae), (2, .ref az), (3, .ref ap), (4, .int (mNot (qli q) (sT (qσ (qPass q 1))) 6)), (7, .int (mNot (qli q) (sT (qσ (qPass q 1))) 6)), (8, .int (nI 1)), (9, .int (nI k))]) hx hb dL_isMinute_678 hl (k := 9) rfl (k_inc _) (by decide) rfl (fun ls hl => ?_)
          refine lv_goto (tgt := 634) hx hb dL_isMinute_681 (by decide) ?_
          exact ih5 (j + 1) (by omega) ρ H locs hP hD hS ls (lv_sub hl [2, 3, 4, 5, 6, 7, 8, 9, 1, 0] rfl)
        · refine lv_aload_n hx hb dL_isMinute_665 rfl (lv_at hl 0 rfl) ?_
          refine lv_iload hx hb dL_isMinute_666 (lv_at hl 9 rfl) ?_
          refine kCallP_i (mc := 0) (ms := 0) (W1 := fun _ : Unit => wQ cI cZ cO x a t b (qPass q 1) ρ) (fun _ _ h => h) hP hD hS hA (fun _ => rfl) (va_runV (As := [.int (nI j)]) (rest := []) ⟨hx, hb, hml, hown, hts⟩ (c_X2_demand l D cI cZ cO cJ x a t b (qK (qPass q 1)) (qHo (qPass q 1)) (sT (qσ (qPass q 1))) (sE (qσ (qPass q 1))) (sD (qσ (qPass q 1))) (sF (qσ (qPass q 1))) (sS (qσ (qPass q 1))) (sC (qσ (qPass q 1))) (sL (qσ (qPass q 1))) (sT ρ) (sE ρ) (sD ρ) (sF ρ) (sS ρ) (sC ρ) (sL ρ) (qLo (qPass q 1)) (qSe (qPass q 1)) (qEf (qPass q 1)) (qgp (qPass q 1)) (qgi (qPass q 1)) (qam (qPass q 1)) (qli (qPass q 1)) (qdl (qPass q 1)) j H.size (by omega)) (cwV (rm := rmX2_demand) 1 hts gL_isMinute_X2_demand rfl rfl rfl (by decide +kernel) ⟨Nat.le_of_ble_eq_true rfl, Nat.le_of_ble_eq_true rfl⟩) (kPreVW hK hN (pfP hP) (pfD hD) (va_recv hK (pfP hP) (ci := 2) (q0 := 0) rfl rfl)) rfl rfl hl.1 rfl (lv_room (Nat.le_of_ble_eq_true rfl)) dL_isMinute_668 ⟨Nat.zero_le _, Nat.zero_le _⟩) (fun r9 u9 H locs hr9 hP hD hS => ?_)
          have hr9 : r9 = sD (qσ (qPass q 1)) j := hr9
          subst hr9
          refine k_as (y := mGd (qEf q k) (sD (qσ (qPass q 1))) (j + 1)) (by rw [mGd_f (qEf q k) (sD (qσ (qPass q 1))) j c1, mMax_r c2]) ?_
          refine lv_goto (tgt := 676) hx hb dL_isMinute_671 (by decide) ?_
          refine lv_istore (lv' := [(10, .int (mGd (qEf q k) (sD (qσ (qPass q 1))) (j + 1))), (0, .ref (x 0)), (1, .ref ae), (2, .ref az), (3, .ref ap), (4, .int (mNot (qli q) (sT (qσ (qPass q 1))) 6)), (7, .int (mNot (qli q) (sT (qσ (qPass q 1))) 6)), (8, .int (nI 1)), (9, .int (nI k)), (11, .int (nI j))]) hx hb dL_isMinute_676 hl (by decide) rfl (fun ls hl => ?_)
          refine lv_iinc (v := nI (j + 1)) (lv' := [(11, .int (nI (j + 1))), (10, .int (mGd (qEf q k) (sD (qσ (qPass q 1))) (j + 1))), (0, .ref (x 0)), (1, .ref ae), (2, .ref az), (3, .ref ap), (4, .int (mNot (qli q) (sT (qσ (qPass q 1))) 6)), (7, .int (mNot (qli q) (sT (qσ (qPass q 1))) 6)), (8, .int (nI 1)), (9, .int (nI k))]) hx hb dL_isMinute_678 hl (k := 9) rfl (k_inc _) (by decide) rfl (fun ls hl => ?_)
          refine lv_goto (tgt := 634) hx hb dL_isMinute_681 (by decide) ?_
          exact ih5 (j + 1) (by omega) ρ H locs hP hD hS ls (lv_sub hl [2, 3, 4, 5, 6, 7, 8, 9, 1, 0] rfl)
  exact lt 6 0 rfl ρ H locs hP hD hS ls (lv_sub hl [2, 3, 4, 5, 6, 7, 8, 9, 1, 0] rfl)

end IM
