theorem F_run (q : QS) (σ : HS) : ∀ n : Nat, sF (qRn q n σ) = sF σ
  | 0 => rfl
  | n + 1 => F_run q σ n
theorem PR.pass {pf : Nat → Int32} {q : QS} {B n : Nat} (h : PR pf q B) : PR pf (qPass q n) B := by
  obtain ⟨h0, h1, h2, h3, h4, h5, hB, hb⟩ := h
  exact ⟨h0, h1, h2, h3, h4, h5, hB, fun f hf => (congrFun (F_run q (qσ q) n) f).trans (hb f hf)⟩
section LB
variable {p : Program} {l : Launch} {e : Env} {s : State} {m : MethodId} {args : Array Value} {below : List Frame} {meth : Method} {c : Code} {Q : State → Prop} {D : va_G} {cI cZ cO cJ : ClassId} {x a t b : Nat → Nat} {ap ae az bs L : Nat} {xs : Nat → Int32} {A : Nat → Prop} {n X cl sl : Nat}
variable {q : QS} {ρ : HS} {pf ef zf : Nat → Int32} {B : Nat} {H : Heap} {locs : List Loc} {ls : Array Slot}
set_option maxHeartbeats 4000000 in
set_option maxRecDepth 100000 in
theorem br_rep {Y Z Fn : Nat} (h0 : LC p l s m args c D cI cZ cO cJ bs L xs A) (hn : n < 100) (hY : Y < 67108864) (hz : Z < 6) (hf : Fn < 8) (hcl : cl + 60 ≤ 743239) (hsl : sl + 360 ≤ 6871752) (hQ : QOK q) (hk : qK q ≤ 100 * n) (hp : PR pf q B) (hE : ER ef q) (hZ : ZR zf q) (hP : va_P D vwCl (wQ cI cZ cO x a t b q ρ ++ [(ap, .inl (cI, 6, .inl pf)), (ae, .inl (cI, 48, .inl ef)), (az, .inl (cI, 30, .inl zf))]) H) (hD : va_D A (wQ cI cZ cO x a t b q ρ ++ [(ap, .inl (cI, 6, .inl pf)), (ae, .inl (cI, 48, .inl ef)), (az, .inl (cI, 30, .inl zf))])) (hS : va_S A s.heap H locs) (hl : lv_has ls 14 [(0, .ref bs), (1, .ref (x 0)), (2, .ref ae), (3, .ref az), (4, .ref ap), (5, .int (nI 1)), (6, .int (nI n)), (7, .int (nI X)), (8, .int (nI Y)), (10, .int (nI Z)), (11, .int (nI Fn))]) (kk : Tl p l e s m args below meth c D cI cZ cO x a t b ap ae az bs A Q n X (cl + 1) (sl + 6)) : W p l e room_1 s m args below meth c H locs cl sl Q (F0 m 667 ls []) := by
  obtain ⟨hx, hb, hml, hts, hown, hK, hN, hX, hC, hA, hsc, hbl, hbA, hst, hL⟩ := h0
  refine lv_aload hx hb dL_law_667 (lv_at hl 4 rfl) ?_
  refine lv_iconst (v := nI 5) hx hb dL_law_669 (by decide +kernel) ?_
  refine k_ialdT hx hb hK hP 0 0 rfl rfl (i := 5) (by decide) (by decide) dL_law_670 ?_
  refine lv_iload hx hb dL_law_671 (lv_at hl 10 rfl) ?_
  refine lv_ishr hx hb dL_law_673 ?_
  refine lv_iconst (v := nI 1) hx hb dL_law_674 (by decide +kernel) ?_
  refine lv_iand hx hb dL_law_675 ?_
  refine k_as (y := sF (qσ q) Fn) (hp.bit (by omega)) ?_
  rcases hQ.F Fn hf with hF | hF
  · refine k_as (y := nI 0) hF ?_
    have hQ1 : QOK (qsRep q Fn) := hQ.rep
    have hp1 := hp.rep2 hf hF
    refine lv_iconst (v := nI 1) hx hb dL_law_676 (by decide +kernel) ?_
    refine lv_icmp_ne (tgt := 684) hx hb dL_law_677 (by decide) (fun _ => ?_) (fun c9 => absurd c9 (by decide +kernel))
    refine lv_iconst (v := nI 0) hx hb dL_law_684 (by decide +kernel) ?_
    refine lv_istore (lv' := [(12, .int (nI 0)), (0, .ref bs), (1, .ref (x 0)), (2, .ref ae), (3, .ref az), (4, .ref ap), (5, .int (nI 1)), (6, .int (nI n)), (7, .int (nI X)), (8, .int (nI Y)), (10, .int (nI Z)), (11, .int (nI Fn))]) hx hb dL_law_685 hl (by decide) rfl (fun ls hl => ?_)
    refine lv_aload_n hx hb dL_law_687 rfl (lv_at hl 2 rfl) ?_
    refine lv_iload hx hb dL_law_688 (lv_at hl 11 rfl) ?_
    refine kCallP_i (mc := 0) (ms := 0) (W1 := fun _ : Unit => wQ cI cZ cO x a t b q ρ) (fun _ _ h => h) hP hD hS hA (fun _ => rfl) (va_runV (As := [.int (nI Fn)]) (rest := []) ⟨hx, hb, hml, hown, hts⟩ (c_X2_speed l D cI cZ cO cJ x a t b (qK q) (qHo q) (sT (qσ q)) (sE (qσ q)) (sD (qσ q)) (sF (qσ q)) (sS (qσ q)) (sC (qσ q)) (sL (qσ q)) (sT ρ) (sE ρ) (sD ρ) (sF ρ) (sS ρ) (sC ρ) (sL ρ) (qLo q) (qSe q) (qEf q) (qgp q) (qgi q) (qam q) (qli q) (qdl q) Fn H.size (by omega)) (cwV (rm := rmX2_speed) 1 hts gL_law_X2_speed rfl rfl rfl (by decide +kernel) ⟨Nat.le_of_ble_eq_true rfl, Nat.le_of_ble_eq_true rfl⟩) (kPreVW hK hN (pfP hP) (pfD hD) (va_recv hK (pfP hP) (ci := 2) (q0 := 0) rfl rfl)) rfl rfl hl.1 rfl (lv_room (Nat.le_of_ble_eq_true rfl)) dL_law_690 ⟨by show _ ≤ 743239; omega, by show _ ≤ 6871752; omega⟩) (fun r9 u9 H locs hr9 hP hD hS => ?_)
    have hr9 : r9 = sS (qσ q) Fn := hr9
    subst hr9
    refine lv_istore (lv' := [(13, .int (sS (qσ q) Fn)), (12, .int (nI 0)), (0, .ref bs), (1, .ref (x 0)), (2, .ref ae), (3, .ref az), (4, .ref ap), (5, .int (nI 1)), (6, .int (nI n)), (7, .int (nI X)), (8, .int (nI Y)), (10, .int (nI Z)), (11, .int (nI Fn))]) hx hb dL_law_693 hl (by decide) rfl (fun ls hl => ?_)
    refine lv_aload hx hb dL_law_695 (lv_at hl 6 rfl) ?_
    refine lv_iconst (v := nI 5) hx hb dL_law_697 (by decide +kernel) ?_
    refine lv_dup2_11 hx hb dL_law_698 rfl rfl ?_
    refine k_ialdT hx hb hK hP 0 0 rfl rfl (i := 5) (by decide) (by decide) dL_law_699 ?_
    refine lv_iconst (v := nI 1) hx hb dL_law_700 (by decide +kernel) ?_
    refine lv_iload hx hb dL_law_701 (lv_at hl 12 rfl) ?_
    refine lv_ishl hx hb dL_law_703 ?_
    refine lv_iconst (v := (-1)) hx hb dL_law_704 (by decide +kernel) ?_
    refine lv_ixor hx hb dL_law_705 ?_
    refine lv_iand hx hb dL_law_706 ?_
    refine k_iastT hx hb hK hP hD hS 0 0 rfl rfl (i := 5) (x := (pf 5) &&& (((nI 1) <<< (nI Fn &&& 31)) ^^^ (-1))) (by decide) (by decide) dL_law_707 (fun H locs hP hD hS => ?_)
    have hP : va_P D vwCl (wQ cI cZ cO x a t b q ρ ++ [(ap, .inl (cI, 6, .inl (upd pf 5 ((pf 5) &&& (((nI 1) <<< (nI Fn &&& 31)) ^^^ (-1)))))), (ae, .inl (cI, 48, .inl ef)), (az, .inl (cI, 30, .inl zf))]) H := hP
    have hD : va_D A (wQ cI cZ cO x a t b q ρ ++ [(ap, .inl (cI, 6, .inl (upd pf 5 ((pf 5) &&& (((nI 1) <<< (nI Fn &&& 31)) ^^^ (-1)))))), (ae, .inl (cI, 48, .inl ef)), (az, .inl (cI, 30, .inl zf))]) := hD
    refine lv_aload_n hx hb dL_law_708 rfl (lv_at hl 3 rfl) ?_
    refine lv_iconst (v := nI 5) hx hb dL_law_709 (by decide +kernel) ?_
    refine lv_iload hx hb dL_law_710 (lv_at hl 12 rfl) ?_
    refine lv_iconst (v := nI 0) hx hb dL_law_712 (by decide +kernel) ?_
    refine lv_iconst (v := nI 0) hx hb dL_law_713 (by decide +kernel) ?_
    refine kCallP_i (mc := 1) (ms := 6) (T := [(ap, .inl (cI, 6, .inl (upd pf 5 ((pf 5) &&& (((nI 1) <<< (nI Fn &&& 31)) ^^^ (-1)))))), (ae, .inl (cI, 48, .inl ef)), (az, .inl (cI, 30, .inl zf))]) (W1 := fun ρ : HS => wQ cI cZ cO x a t b q ρ) (fun _ _ h => h) hP hD hS hA (fun _ => rfl) (vx_runSW (As := [.ref (x 0), .int (nI 5), .int (nI Fn), .int (nI 0), .int (nI 0)]) (rest := []) ⟨hx, hb, hml, hown, hts⟩ (c_L_set_repair_two l hst D cI cZ cO cJ x a t b q ρ Fn (nI 0) (nI 0) H.size hf (hF.trans nI_0)) (vx_cwSW (rm := rxL_set) 5 hts gL_law_L_set rfl rfl rfl (by decide +kernel) ⟨Nat.le_of_ble_eq_true rfl, Nat.le_of_ble_eq_true rfl⟩) (kPreSHW hK hN hX hC (pfP hP) (pfD hD) hS (kfree (pfD hD) hS hA)) rfl rfl hl.1 rfl (lv_room (Nat.le_of_ble_eq_true rfl)) dL_law_714 ⟨by show _ ≤ 743239; omega, by show _ ≤ 6871752; omega⟩) (fun r9 ρ H locs hr9 hP hD hS => ?_)
    have hr9 : r9 = (-9000002) := hr9
    subst hr9
    refine W.widen (k := cl + 1) (n := sl + 6) (by omega) (by omega) ?_
    refine lv_iload hx hb dL_law_717 (lv_at hl 1 rfl) ?_
    refine lv_if_eq (tgt := 730) hx hb dL_law_719 (by decide) (fun _ => ?_) (fun c9 => absurd (by decide +kernel) c9)
    refine lv_ldc hx hb hown (hts (.constant RL 40 (-9000002)) (by decide +kernel)) dL_law_730 ?_
    refine lv_icmp_ne (tgt := 750) hx hb dL_law_732 (by decide) (fun c9 => absurd (by decide +kernel) c9) (fun _ => ?_)
    refine lv_aload_n hx hb dL_law_735 rfl (lv_at hl 3 rfl) ?_
    refine lv_iload hx hb dL_law_736 (lv_at hl 12 rfl) ?_
    refine kCallP_i (mc := 0) (ms := 0) (W1 := fun _ : Unit => wQ cI cZ cO x a t b q ρ) (fun _ _ h => h) hP hD hS hA (fun _ => rfl) (va_runV (As := [.int (nI Fn)]) (rest := []) ⟨hx, hb, hml, hown, hts⟩ (c_X2_speed l D cI cZ cO cJ x a t b (qK q) (qHo q) (sT (qσ q)) (sE (qσ q)) (sD (qσ q)) (sF (qσ q)) (sS (qσ q)) (sC (qσ q)) (sL (qσ q)) (sT ρ) (sE ρ) (sD ρ) (sF ρ) (sS ρ) (sC ρ) (sL ρ) (qLo q) (qSe q) (qEf q) (qgp q) (qgi q) (qam q) (qli q) (qdl q) Fn H.size (by omega)) (cwV (rm := rmX2_speed) 1 hts gL_law_X2_speed rfl rfl rfl (by decide +kernel) ⟨Nat.le_of_ble_eq_true rfl, Nat.le_of_ble_eq_true rfl⟩) (kPreVW hK hN (pfP hP) (pfD hD) (va_recv hK (pfP hP) (ci := 2) (q0 := 0) rfl rfl)) rfl rfl hl.1 rfl (lv_room (Nat.le_of_ble_eq_true rfl)) dL_law_738 ⟨by show _ ≤ 743239; omega, by show _ ≤ 6871752; omega⟩) (fun r9 u9 H locs hr9 hP hD hS => ?_)
    have hr9 : r9 = sS (qσ q) Fn := hr9
    subst hr9
    refine lv_iload hx hb dL_law_741 (lv_at hl 0 rfl) ?_
    refine lv_icmp_ne (tgt := 750) hx hb dL_law_743 (by decide) (fun c9 => absurd rfl c9) (fun _ => ?_)
    refine lv_iconst (v := nI 1) hx hb dL_law_746 (by decide +kernel) ?_
    refine lv_goto (tgt := 751) hx hb dL_law_747 (by decide) ?_
    refine lv_istore (lv' := [(5, .int (nI 1)), (13, .int (sS (qσ q) Fn)), (12, .int (nI 0)), (0, .ref bs), (1, .ref (x 0)), (2, .ref ae), (3, .ref az), (4, .ref ap), (6, .int (nI n)), (7, .int (nI X)), (8, .int (nI Y)), (10, .int (nI Z)), (11, .int (nI Fn))]) hx hb dL_law_751 hl (by decide) rfl (fun ls hl => ?_)
    refine lv_goto (tgt := 880) hx hb dL_law_753 (by decide) ?_
    exact kk q ρ (upd pf 5 ((pf 5) &&& (((nI 1) <<< (nI Fn &&& 31)) ^^^ (-1)))) ef zf (bclr B Fn) hQ (show qK q ≤ _ by omega) hp1 hE hZ H locs hP hD hS ls (lv_sub hl [3, 4, 5, 6, 7, 0, 8, 9] rfl)
  · refine k_as (y := nI 1) hF ?_
    have hQ1 : QOK (qsRep q Fn) := hQ.rep
    have hp1 := hp.rep hf
    refine lv_iconst (v := nI 1) hx hb dL_law_676 (by decide +kernel) ?_
    refine lv_icmp_ne (tgt := 684) hx hb dL_law_677 (by decide) (fun c9 => absurd (by decide +kernel) c9) (fun _ => ?_)
    refine lv_iconst (v := nI 1) hx hb dL_law_680 (by decide +kernel) ?_
    refine lv_goto (tgt := 685) hx hb dL_law_681 (by decide) ?_
    refine lv_istore (lv' := [(12, .int (nI 1)), (0, .ref bs), (1, .ref (x 0)), (2, .ref ae), (3, .ref az), (4, .ref ap), (5, .int (nI 1)), (6, .int (nI n)), (7, .int (nI X)), (8, .int (nI Y)), (10, .int (nI Z)), (11, .int (nI Fn))]) hx hb dL_law_685 hl (by decide) rfl (fun ls hl => ?_)
    refine lv_aload_n hx hb dL_law_687 rfl (lv_at hl 2 rfl) ?_
    refine lv_iload hx hb dL_law_688 (lv_at hl 11 rfl) ?_
    refine kCallP_i (mc := 0) (ms := 0) (W1 := fun _ : Unit => wQ cI cZ cO x a t b q ρ) (fun _ _ h => h) hP hD hS hA (fun _ => rfl) (va_runV (As := [.int (nI Fn)]) (rest := []) ⟨hx, hb, hml, hown, hts⟩ (c_X2_speed l D cI cZ cO cJ x a t b (qK q) (qHo q) (sT (qσ q)) (sE (qσ q)) (sD (qσ q)) (sF (qσ q)) (sS (qσ q)) (sC (qσ q)) (sL (qσ q)) (sT ρ) (sE ρ) (sD ρ) (sF ρ) (sS ρ) (sC ρ) (sL ρ) (qLo q) (qSe q) (qEf q) (qgp q) (qgi q) (qam q) (qli q) (qdl q) Fn H.size (by omega)) (cwV (rm := rmX2_speed) 1 hts gL_law_X2_speed rfl rfl rfl (by decide +kernel) ⟨Nat.le_of_ble_eq_true rfl, Nat.le_of_ble_eq_true rfl⟩) (kPreVW hK hN (pfP hP) (pfD hD) (va_recv hK (pfP hP) (ci := 2) (q0 := 0) rfl rfl)) rfl rfl hl.1 rfl (lv_room (Nat.le_of_ble_eq_true rfl)) dL_law_690 ⟨by show _ ≤ 743239; omega, by show _ ≤ 6871752; omega⟩) (fun r9 u9 H locs hr9 hP hD hS => ?_)
    have hr9 : r9 = sS (qσ q) Fn := hr9
    subst hr9
    refine lv_istore (lv' := [(13, .int (sS (qσ q) Fn)), (12, .int (nI 1)), (0, .ref bs), (1, .ref (x 0)), (2, .ref ae), (3, .ref az), (4, .ref ap), (5, .int (nI 1)), (6, .int (nI n)), (7, .int (nI X)), (8, .int (nI Y)), (10, .int (nI Z)), (11, .int (nI Fn))]) hx hb dL_law_693 hl (by decide) rfl (fun ls hl => ?_)
    refine lv_aload hx hb dL_law_695 (lv_at hl 6 rfl) ?_
    refine lv_iconst (v := nI 5) hx hb dL_law_697 (by decide +kernel) ?_
    refine lv_dup2_11 hx hb dL_law_698 rfl rfl ?_
    refine k_ialdT hx hb hK hP 0 0 rfl rfl (i := 5) (by decide) (by decide) dL_law_699 ?_
    refine lv_iconst (v := nI 1) hx hb dL_law_700 (by decide +kernel) ?_
    refine lv_iload hx hb dL_law_701 (lv_at hl 12 rfl) ?_
    refine lv_ishl hx hb dL_law_703 ?_
    refine lv_iconst (v := (-1)) hx hb dL_law_704 (by decide +kernel) ?_
    refine lv_ixor hx hb dL_law_705 ?_
    refine lv_iand hx hb dL_law_706 ?_
    refine k_iastT hx hb hK hP hD hS 0 0 rfl rfl (i := 5) (x := (pf 5) &&& (((nI 1) <<< (nI Fn &&& 31)) ^^^ (-1))) (by decide) (by decide) dL_law_707 (fun H locs hP hD hS => ?_)
    have hP : va_P D vwCl (wQ cI cZ cO x a t b q ρ ++ [(ap, .inl (cI, 6, .inl (upd pf 5 ((pf 5) &&& (((nI 1) <<< (nI Fn &&& 31)) ^^^ (-1)))))), (ae, .inl (cI, 48, .inl ef)), (az, .inl (cI, 30, .inl zf))]) H := hP
    have hD : va_D A (wQ cI cZ cO x a t b q ρ ++ [(ap, .inl (cI, 6, .inl (upd pf 5 ((pf 5) &&& (((nI 1) <<< (nI Fn &&& 31)) ^^^ (-1)))))), (ae, .inl (cI, 48, .inl ef)), (az, .inl (cI, 30, .inl zf))]) := hD
    refine lv_aload_n hx hb dL_law_708 rfl (lv_at hl 3 rfl) ?_
    refine lv_iconst (v := nI 5) hx hb dL_law_709 (by decide +kernel) ?_
    refine lv_iload hx hb dL_law_710 (lv_at hl 12 rfl) ?_
    refine lv_iconst (v := nI 0) hx hb dL_law_712 (by decide +kernel) ?_
    refine lv_iconst (v := nI 0) hx hb dL_law_713 (by decide +kernel) ?_
    refine kCallP_i (mc := 0) (ms := 0) (T := [(ap, .inl (cI, 6, .inl (upd pf 5 ((pf 5) &&& (((nI 1) <<< (nI Fn &&& 31)) ^^^ (-1)))))), (ae, .inl (cI, 48, .inl ef)), (az, .inl (cI, 30, .inl zf))]) (W1 := fun ρ : HS => wQ cI cZ cO x a t b (qsRep q Fn) ρ) (fun _ _ h => h) hP hD hS hA (fun _ => rfl) (vx_runSW (As := [.ref (x 0), .int (nI 5), .int (nI Fn), .int (nI 0), .int (nI 0)]) (rest := []) ⟨hx, hb, hml, hown, hts⟩ (c_L_set_repair l D cI cZ cO cJ x a t b q ρ Fn (nI 0) (nI 0) H.size hf (by rw [hF]; decide +kernel)) (vx_cwSW (rm := rmL_set) 5 hts gL_law_L_set rfl rfl rfl (by decide +kernel) ⟨Nat.le_of_ble_eq_true rfl, Nat.le_of_ble_eq_true rfl⟩) (kPreSHW hK hN hX hC (pfP hP) (pfD hD) hS (kfree (pfD hD) hS hA)) rfl rfl hl.1 rfl (lv_room (Nat.le_of_ble_eq_true rfl)) dL_law_714 ⟨by show _ ≤ 743239; omega, by show _ ≤ 6871752; omega⟩) (fun r9 ρ H locs hr9 hP hD hS => ?_)
    have hr9 : r9 = mCnt (sF (qσ (qsRep q Fn))) 8 := hr9
    subst hr9
    refine lv_iload hx hb dL_law_717 (lv_at hl 1 rfl) ?_
    refine lv_if_eq (tgt := 730) hx hb dL_law_719 (by decide) (fun c9 => absurd c9 (by decide +kernel)) (fun _ => ?_)
    refine lv_aload hx hb dL_law_722 (lv_at hl 6 rfl) ?_
    have hPc : va_P D vwCl ((wQ cI cZ cO x a t b (qsRep q Fn) ρ ++ [(ap, .inl (cI, 6, .inl (upd pf 5 ((pf 5) &&& (((nI 1) <<< (nI Fn &&& 31)) ^^^ (-1))))))]) ++ [(ae, .inl (cI, 48, .inl ef)), (az, .inl (cI, 30, .inl zf))]) H := by rw [List.append_assoc]; exact hP
    have hDc : va_D A ((wQ cI cZ cO x a t b (qsRep q Fn) ρ ++ [(ap, .inl (cI, 6, .inl (upd pf 5 ((pf 5) &&& (((nI 1) <<< (nI Fn &&& 31)) ^^^ (-1))))))]) ++ [(ae, .inl (cI, 48, .inl ef)), (az, .inl (cI, 30, .inl zf))]) := by rw [List.append_assoc]; exact hD
    refine kCallP_i (mc := 0) (ms := 0) (T := [(ae, .inl (cI, 48, .inl ef)), (az, .inl (cI, 30, .inl zf))]) (W1 := fun ρ : HS => wQ cI cZ cO x a t b (qsRep q Fn) ρ ++ [(ap, .inl (cI, 6, .inl (upd pf 5 ((pf 5) &&& (((nI 1) <<< (nI Fn &&& 31)) ^^^ (-1))))))]) (fun _ _ h => h) hPc hDc hS hA (fun _ => rfl) (va_runS (As := [.ref ap]) (rest := [.int (mCnt (sF (qσ (qsRep q Fn))) 8)]) ⟨hx, hb, hml, hown, hts⟩ (c_L_running l D cI cZ cO cJ x a t b (qsRep q Fn) ρ ap (upd pf 5 ((pf 5) &&& (((nI 1) <<< (nI Fn &&& 31)) ^^^ (-1)))) (bclr B Fn) H.size hQ1 hp1) (va_cwS (rm := rmL_running) 1 hts gL_law_L_running rfl rfl rfl (by decide +kernel) ⟨Nat.le_of_ble_eq_true rfl, Nat.le_of_ble_eq_true rfl⟩) (kPreSHW hK hN hX hC (pfP hPc) (pfD hDc) hS (kfree (pfD hDc) hS hA)) rfl rfl hl.1 rfl (lv_room (Nat.le_of_ble_eq_true rfl)) dL_law_724 ⟨by show _ ≤ 743239; omega, by show _ ≤ 6871752; omega⟩) (fun r9 ρ H locs hr9 hP hD hS => ?_)
    have hr9 : r9 = mCnt (sF (qσ (qsRep q Fn))) 8 := hr9
    subst hr9
    have hP : va_P D vwCl (wQ cI cZ cO x a t b (qsRep q Fn) ρ ++ [(ap, .inl (cI, 6, .inl (upd pf 5 ((pf 5) &&& (((nI 1) <<< (nI Fn &&& 31)) ^^^ (-1)))))), (ae, .inl (cI, 48, .inl ef)), (az, .inl (cI, 30, .inl zf))]) H := by rw [List.append_assoc] at hP; exact hP
    have hD : va_D A (wQ cI cZ cO x a t b (qsRep q Fn) ρ ++ [(ap, .inl (cI, 6, .inl (upd pf 5 ((pf 5) &&& (((nI 1) <<< (nI Fn &&& 31)) ^^^ (-1)))))), (ae, .inl (cI, 48, .inl ef)), (az, .inl (cI, 30, .inl zf))]) := by rw [List.append_assoc] at hD; exact hD
    refine lv_goto (tgt := 732) hx hb dL_law_727 (by decide) ?_
    refine lv_icmp_ne (tgt := 750) hx hb dL_law_732 (by decide) (fun c9 => absurd rfl c9) (fun _ => ?_)
    refine lv_aload_n hx hb dL_law_735 rfl (lv_at hl 3 rfl) ?_
    refine lv_iload hx hb dL_law_736 (lv_at hl 12 rfl) ?_
    refine kCallP_i (mc := 0) (ms := 0) (W1 := fun _ : Unit => wQ cI cZ cO x a t b (qsRep q Fn) ρ) (fun _ _ h => h) hP hD hS hA (fun _ => rfl) (va_runV (As := [.int (nI Fn)]) (rest := []) ⟨hx, hb, hml, hown, hts⟩ (c_X2_speed l D cI cZ cO cJ x a t b (qK (qsRep q Fn)) (qHo (qsRep q Fn)) (sT (qσ (qsRep q Fn))) (sE (qσ (qsRep q Fn))) (sD (qσ (qsRep q Fn))) (sF (qσ (qsRep q Fn))) (sS (qσ (qsRep q Fn))) (sC (qσ (qsRep q Fn))) (sL (qσ (qsRep q Fn))) (sT ρ) (sE ρ) (sD ρ) (sF ρ) (sS ρ) (sC ρ) (sL ρ) (qLo (qsRep q Fn)) (qSe (qsRep q Fn)) (qEf (qsRep q Fn)) (qgp (qsRep q Fn)) (qgi (qsRep q Fn)) (qam (qsRep q Fn)) (qli (qsRep q Fn)) (qdl (qsRep q Fn)) Fn H.size (by omega)) (cwV (rm := rmX2_speed) 1 hts gL_law_X2_speed rfl rfl rfl (by decide +kernel) ⟨Nat.le_of_ble_eq_true rfl, Nat.le_of_ble_eq_true rfl⟩) (kPreVW hK hN (pfP hP) (pfD hD) (va_recv hK (pfP hP) (ci := 2) (q0 := 0) rfl rfl)) rfl rfl hl.1 rfl (lv_room (Nat.le_of_ble_eq_true rfl)) dL_law_738 ⟨by show _ ≤ 743239; omega, by show _ ≤ 6871752; omega⟩) (fun r9 u9 H locs hr9 hP hD hS => ?_)
    have hr9 : r9 = sS (qσ (qsRep q Fn)) Fn := hr9
    subst hr9
    refine lv_iload hx hb dL_law_741 (lv_at hl 0 rfl) ?_
    refine lv_icmp_ne (tgt := 750) hx hb dL_law_743 (by decide) (fun c9 => absurd rfl c9) (fun _ => ?_)
    refine lv_iconst (v := nI 1) hx hb dL_law_746 (by decide +kernel) ?_
    refine lv_goto (tgt := 751) hx hb dL_law_747 (by decide) ?_
    refine lv_istore (lv' := [(5, .int (nI 1)), (13, .int (sS (qσ q) Fn)), (12, .int (nI 1)), (0, .ref bs), (1, .ref (x 0)), (2, .ref ae), (3, .ref az), (4, .ref ap), (6, .int (nI n)), (7, .int (nI X)), (8, .int (nI Y)), (10, .int (nI Z)), (11, .int (nI Fn))]) hx hb dL_law_751 hl (by decide) rfl (fun ls hl => ?_)
    refine lv_goto (tgt := 880) hx hb dL_law_753 (by decide) ?_
    refine W.widen (k := cl + 1) (n := sl + 6) (by omega) (by omega) ?_
    exact kk (qsRep q Fn) ρ (upd pf 5 ((pf 5) &&& (((nI 1) <<< (nI Fn &&& 31)) ^^^ (-1)))) ef zf (bclr B Fn) hQ1 (show qK q ≤ _ by omega) hp1 hE hZ H locs hP hD hS ls (lv_sub hl [3, 4, 5, 6, 7, 0, 8, 9] rfl)

set_option maxHeartbeats 4000000 in
set_option maxRecDepth 100000 in
theorem br_min {Y Z Fn : Nat} (h0 : LC p l s m args c D cI cZ cO cJ bs L xs A) (hn : n < 100) (hY : Y < 67108864) (hz : Z < 6) (hf : Fn < 8) (hcl : cl + 60 ≤ 743239) (hsl : sl + 360 ≤ 6871752) (hQ : QOK q) (hk : qK q ≤ 100 * n) (hp : PR pf q B) (hE : ER ef q) (hZ : ZR zf q) (hP : va_P D vwCl (wQ cI cZ cO x a t b q ρ ++ [(ap, .inl (cI, 6, .inl pf)), (ae, .inl (cI, 48, .inl ef)), (az, .inl (cI, 30, .inl zf))]) H) (hD : va_D A (wQ cI cZ cO x a t b q ρ ++ [(ap, .inl (cI, 6, .inl pf)), (ae, .inl (cI, 48, .inl ef)), (az, .inl (cI, 30, .inl zf))])) (hS : va_S A s.heap H locs) (hl : lv_has ls 14 [(0, .ref bs), (1, .ref (x 0)), (2, .ref ae), (3, .ref az), (4, .ref ap), (5, .int (nI 1)), (6, .int (nI n)), (7, .int (nI X)), (8, .int (nI Y)), (10, .int (nI Z)), (11, .int (nI Fn))]) (kk : Tl p l e s m args below meth c D cI cZ cO x a t b ap ae az bs A Q n X (cl + 1) (sl + 6)) : W p l e room_1 s m args below meth c H locs cl sl Q (F0 m 763 ls []) := by
  obtain ⟨hx, hb, hml, hts, hown, hK, hN, hX, hC, hA, hsc, hbl, hbA, hst, hL⟩ := h0
  refine lv_iconst (v := nI 0) hx hb dL_law_763 (by decide +kernel) ?_
  refine lv_istore (lv' := [(12, .int (nI 0)), (0, .ref bs), (1, .ref (x 0)), (2, .ref ae), (3, .ref az), (4, .ref ap), (5, .int (nI 1)), (6, .int (nI n)), (7, .int (nI X)), (8, .int (nI Y)), (10, .int (nI Z)), (11, .int (nI Fn))]) hx hb dL_law_764 hl (by decide) rfl (fun ls hl => ?_)
  have lp : ∀ (n9 j : Nat), j + n9 = 1 + (Y % 6) → ∀ (q : QS) (ρ : HS) (zf : Nat → Int32), QOK q → qK q ≤ 100 * n + j → PR pf q B → ER ef q → ZR zf q → ∀ (H : Heap) (locs : List Loc), va_P D vwCl (wQ cI cZ cO x a t b q ρ ++ [(ap, .inl (cI, 6, .inl pf)), (ae, .inl (cI, 48, .inl ef)), (az, .inl (cI, 30, .inl zf))]) H → va_D A (wQ cI cZ cO x a t b q ρ ++ [(ap, .inl (cI, 6, .inl pf)), (ae, .inl (cI, 48, .inl ef)), (az, .inl (cI, 30, .inl zf))]) → va_S A s.heap H locs → ∀ ls : Array Slot, lv_has ls 14 [(0, .ref bs), (1, .ref (x 0)), (2, .ref ae), (3, .ref az), (4, .ref ap), (5, .int (nI 1)), (6, .int (nI n)), (7, .int (nI X)), (8, .int (nI Y)), (12, .int (nI j))] → W p l e room_1 s m args below meth c H locs cl sl Q (F0 m 766 ls []) := by
    intro n9
    induction n9 with
    | zero =>
      intro j hz9 q ρ zf hQ hk hp hE hZ H locs hP hD hS ls hl
      have hz9 : 1 + (Y % 6) = j := by omega
      subst hz9
      refine lv_iload hx hb dL_law_766 (lv_at hl 9 rfl) ?_
      refine lv_iconst (v := nI 1) hx hb dL_law_768 (by decide +kernel) ?_
      refine lv_iload hx hb dL_law_769 (lv_at hl 8 rfl) ?_
      refine lv_bipush (v := nI 6) hx hb dL_law_771 (by decide +kernel) ?_
      refine lv_irem hx hb dL_law_773 (by decide +kernel) ?_
      refine k_as (y := nI (Y % 6)) (nI_mod (by omega) (by decide) (by decide)) ?_
      refine lv_iadd hx hb dL_law_774 ?_
      refine k_as (nI_add _ _) ?_
      refine lv_icmp_ge (tgt := 799) hx hb dL_law_775 (by decide) (fun _ => ?_) (fun c9 => absurd (nI_le (Nat.le_refl _) (by omega)) c9)
      refine lv_goto (tgt := 880) hx hb dL_law_799 (by decide) ?_
      refine W.widen (k := cl + 1) (n := sl + 6) (by omega) (by omega) ?_
      exact kk q ρ pf ef zf B hQ (by omega) hp hE hZ H locs hP hD hS ls (lv_sub hl [0, 1, 2, 3, 4, 5, 6, 7] rfl)
    | succ n9 ih =>
      intro j hz9 q ρ zf hQ hk hp hE hZ H locs hP hD hS ls hl
      have hzb : j < 1 + (Y % 6) := by omega
      refine lv_iload hx hb dL_law_766 (lv_at hl 9 rfl) ?_
      refine lv_iconst (v := nI 1) hx hb dL_law_768 (by decide +kernel) ?_
      refine lv_iload hx hb dL_law_769 (lv_at hl 8 rfl) ?_
      refine lv_bipush (v := nI 6) hx hb dL_law_771 (by decide +kernel) ?_
      refine lv_irem hx hb dL_law_773 (by decide +kernel) ?_
      refine k_as (y := nI (Y % 6)) (nI_mod (by omega) (by decide) (by decide)) ?_
      refine lv_iadd hx hb dL_law_774 ?_
      refine k_as (nI_add _ _) ?_
      refine lv_icmp_ge (tgt := 799) hx hb dL_law_775 (by decide) (fun c9 => absurd c9 (nI_ge hzb (by omega))) (fun _ => ?_)
      refine lv_iload hx hb dL_law_778 (lv_at hl 5 rfl) ?_
      refine lv_if_eq (tgt := 799) hx hb dL_law_780 (by decide) (fun c9 => absurd c9 (by decide +kernel)) (fun _ => ?_)
      refine lv_aload_n hx hb dL_law_783 rfl (lv_at hl 1 rfl) ?_
      refine lv_aload_n hx hb dL_law_784 rfl (lv_at hl 2 rfl) ?_
      refine lv_aload_n hx hb dL_law_785 rfl (lv_at hl 3 rfl) ?_
      refine lv_aload hx hb dL_law_786 (lv_at hl 4 rfl) ?_
      have hPc : va_P D vwCl ((wQ cI cZ cO x a t b q ρ ++ [(ap, .inl (cI, 6, .inl pf)), (ae, .inl (cI, 48, .inl ef)), (az, .inl (cI, 30, .inl zf))]) ++ []) H := by rw [List.append_nil]; exact hP
      have hDc : va_D A ((wQ cI cZ cO x a t b q ρ ++ [(ap, .inl (cI, 6, .inl pf)), (ae, .inl (cI, 48, .inl ef)), (az, .inl (cI, 30, .inl zf))]) ++ []) := by rw [List.append_nil]; exact hD
      refine kCallP_i (mc := 0) (ms := 0) (T := []) (W1 := fun ρ : HS => wQ cI cZ cO x a t b (qPass q 1) ρ ++ [(ap, .inl (cI, 6, .inl pf)), (ae, .inl (cI, 48, .inl ef)), (az, .inl (cI, 30, .inl (zM q zf 6)))]) (fun _ _ h => h) hPc hDc hS hA (fun _ => rfl) (va_runS (As := [.ref (x 0), .ref ae, .ref az, .ref ap]) (rest := []) ⟨hx, hb, hml, hown, hts⟩ (c_L_isMinute l D cI cZ cO cJ x a t b q ρ ap ae az pf ef zf B H.size hQ (by omega) hp hE hZ) (va_cwS (rm := rmL_isMinute) 4 hts gL_law_L_isMinute rfl rfl rfl (by decide +kernel) ⟨Nat.le_of_ble_eq_true rfl, Nat.le_of_ble_eq_true rfl⟩) (kPreSHW hK hN hX hC (pfP hPc) (pfD hDc) hS (kfree (pfD hDc) hS hA)) rfl rfl hl.1 rfl (lv_room (Nat.le_of_ble_eq_true rfl)) dL_law_788 ⟨by show _ ≤ 743239; omega, by show _ ≤ 6871752; omega⟩) (fun r9 ρ H locs hr9 hP hD hS => ?_)
      have hr9 : r9 = nI 1 := hr9
      subst hr9
      have hP : va_P D vwCl (wQ cI cZ cO x a t b (qPass q 1) ρ ++ [(ap, .inl (cI, 6, .inl pf)), (ae, .inl (cI, 48, .inl ef)), (az, .inl (cI, 30, .inl (zM q zf 6)))]) H := by rw [List.append_nil] at hP; exact hP
      have hD : va_D A (wQ cI cZ cO x a t b (qPass q 1) ρ ++ [(ap, .inl (cI, 6, .inl pf)), (ae, .inl (cI, 48, .inl ef)), (az, .inl (cI, 30, .inl (zM q zf 6)))]) := by rw [List.append_nil] at hD; exact hD
      refine lv_istore (lv' := [(5, .int (nI 1)), (0, .ref bs), (1, .ref (x 0)), (2, .ref ae), (3, .ref az), (4, .ref ap), (6, .int (nI n)), (7, .int (nI X)), (8, .int (nI Y)), (12, .int (nI j))]) hx hb dL_law_791 hl (by decide) rfl (fun ls hl => ?_)
      refine lv_iinc (v := nI (j + 1)) (lv' := [(12, .int (nI (j + 1))), (5, .int (nI 1)), (0, .ref bs), (1, .ref (x 0)), (2, .ref ae), (3, .ref az), (4, .ref ap), (6, .int (nI n)), (7, .int (nI X)), (8, .int (nI Y))]) hx hb dL_law_793 hl (k := 9) rfl (k_inc _) (by decide) rfl (fun ls hl => ?_)
      refine lv_goto (tgt := 766) hx hb dL_law_796 (by decide) ?_
      exact ih (j + 1) (by omega) (qPass q 1) ρ (zM q zf 6) (hQ.pass 1 (by omega)) (show qK q + 1 ≤ 100 * n + (j + 1) by omega) hp hE (hZ.zM 6) H locs hP hD hS ls (lv_sub hl [2, 3, 4, 5, 6, 1, 7, 8, 9, 0] rfl)
  exact lp (1 + (Y % 6)) 0 (by omega) q ρ zf hQ (by omega) hp hE hZ H locs hP hD hS ls (lv_sub hl [1, 2, 3, 4, 5, 6, 7, 8, 9, 0] rfl)

set_option maxHeartbeats 4000000 in
set_option maxRecDepth 100000 in
theorem br_pass {Y Z Fn : Nat} (h0 : LC p l s m args c D cI cZ cO cJ bs L xs A) (hn : n < 100) (hY : Y < 67108864) (hz : Z < 6) (hf : Fn < 8) (hcl : cl + 60 ≤ 743239) (hsl : sl + 360 ≤ 6871752) (hQ : QOK q) (hk : qK q ≤ 100 * n) (hp : PR pf q B) (hE : ER ef q) (hZ : ZR zf q) (hP : va_P D vwCl (wQ cI cZ cO x a t b q ρ ++ [(ap, .inl (cI, 6, .inl pf)), (ae, .inl (cI, 48, .inl ef)), (az, .inl (cI, 30, .inl zf))]) H) (hD : va_D A (wQ cI cZ cO x a t b q ρ ++ [(ap, .inl (cI, 6, .inl pf)), (ae, .inl (cI, 48, .inl ef)), (az, .inl (cI, 30, .inl zf))])) (hS : va_S A s.heap H locs) (hl : lv_has ls 14 [(0, .ref bs), (1, .ref (x 0)), (2, .ref ae), (3, .ref az), (4, .ref ap), (5, .int (nI 1)), (6, .int (nI n)), (7, .int (nI X)), (8, .int (nI Y)), (10, .int (nI Z)), (11, .int (nI Fn))]) (kk : Tl p l e s m args below meth c D cI cZ cO x a t b ap ae az bs A Q n X (cl + 1) (sl + 6)) : W p l e room_1 s m args below meth c H locs cl sl Q (F0 m 809 ls []) := by
  obtain ⟨hx, hb, hml, hts, hown, hK, hN, hX, hC, hA, hsc, hbl, hbA, hst, hL⟩ := h0
  refine lv_aload_n hx hb dL_law_809 rfl (lv_at hl 1 rfl) ?_
  refine kCallP_i (mc := 0) (ms := 0) (W1 := fun _ : Unit => wQ cI cZ cO x a t b q ρ) (fun _ _ h => h) hP hD hS hA (fun _ => rfl) (va_runV (As := []) (rest := []) ⟨hx, hb, hml, hown, hts⟩ (c_X2_clock l D cI cZ cO cJ x a t b (qK q) (qHo q) (sT (qσ q)) (sE (qσ q)) (sD (qσ q)) (sF (qσ q)) (sS (qσ q)) (sC (qσ q)) (sL (qσ q)) (sT ρ) (sE ρ) (sD ρ) (sF ρ) (sS ρ) (sC ρ) (sL ρ) (qLo q) (qSe q) (qEf q) (qgp q) (qgi q) (qam q) (qli q) (qdl q) H.size ) (cwV (rm := rmX2_clock) 0 hts gL_law_X2_clock rfl rfl rfl (by decide +kernel) ⟨Nat.le_of_ble_eq_true rfl, Nat.le_of_ble_eq_true rfl⟩) (kPreVW hK hN (pfP hP) (pfD hD) (va_recv hK (pfP hP) (ci := 2) (q0 := 0) rfl rfl)) rfl rfl hl.1 rfl (lv_room (Nat.le_of_ble_eq_true rfl)) dL_law_810 ⟨by show _ ≤ 743239; omega, by show _ ≤ 6871752; omega⟩) (fun r9 u9 H locs hr9 hP hD hS => ?_)
  have hr9 : r9 = nI (qK q) := hr9
  subst hr9
  refine lv_istore (lv' := [(12, .int (nI (qK q))), (0, .ref bs), (1, .ref (x 0)), (2, .ref ae), (3, .ref az), (4, .ref ap), (5, .int (nI 1)), (6, .int (nI n)), (7, .int (nI X)), (8, .int (nI Y)), (10, .int (nI Z)), (11, .int (nI Fn))]) hx hb dL_law_813 hl (by decide) rfl (fun ls hl => ?_)
  refine lv_aload_n hx hb dL_law_815 rfl (lv_at hl 2 rfl) ?_
  refine lv_bipush (v := nI 6) hx hb dL_law_816 (by decide +kernel) ?_
  refine lv_iconst (v := nI 1) hx hb dL_law_818 (by decide +kernel) ?_
  refine lv_iload hx hb dL_law_819 (lv_at hl 9 rfl) ?_
  refine lv_bipush (v := nI 100) hx hb dL_law_821 (by decide +kernel) ?_
  refine lv_irem hx hb dL_law_823 (by decide +kernel) ?_
  refine k_as (y := nI (Y % 100)) (nI_mod (by omega) (by decide) (by decide)) ?_
  refine lv_iadd hx hb dL_law_824 ?_
  refine k_as (nI_add _ _) ?_
  refine lv_iconst (v := nI 0) hx hb dL_law_825 (by decide +kernel) ?_
  refine lv_iconst (v := nI 0) hx hb dL_law_826 (by decide +kernel) ?_
  refine kCallP_i (mc := 0) (ms := 0) (T := [(ap, .inl (cI, 6, .inl pf)), (ae, .inl (cI, 48, .inl ef)), (az, .inl (cI, 30, .inl zf))]) (W1 := fun ρ : HS => wQ cI cZ cO x a t b (qPass q (1 + (Y % 100))) ρ) (fun _ _ h => h) hP hD hS hA (fun _ => rfl) (vx_runSW (As := [.ref (x 0), .int (nI 6), .int (nI (1 + (Y % 100))), .int (nI 0), .int (nI 0)]) (rest := []) ⟨hx, hb, hml, hown, hts⟩ (c_L_set_pass l D cI cZ cO cJ x a t b q ρ (1 + (Y % 100)) (nI 0) (nI 0) H.size (by omega) (by omega) hQ (by omega)) (vx_cwSW (rm := rmL_set) 5 hts gL_law_L_set rfl rfl rfl (by decide +kernel) ⟨Nat.le_of_ble_eq_true rfl, Nat.le_of_ble_eq_true rfl⟩) (kPreSHW hK hN hX hC (pfP hP) (pfD hD) hS (kfree (pfD hD) hS hA)) rfl rfl hl.1 rfl (lv_room (Nat.le_of_ble_eq_true rfl)) dL_law_827 ⟨by show _ ≤ 743239; omega, by show _ ≤ 6871752; omega⟩) (fun r9 ρ H locs hr9 hP hD hS => ?_)
  have hr9 : r9 = pSum (qli q) (fun k => sT (qRn q k (qσ q))) (1 + (Y % 100)) := hr9
  subst hr9
  have hQ1 : QOK (qPass q (1 + (Y % 100))) := hQ.pass _ (by omega)
  refine lv_if_lt (tgt := 854) hx hb dL_law_830 (by decide) (fun c9 => absurd c9 (i_nlt0 (pSum_b _ _ _ (by omega)).1)) (fun _ => ?_)
  refine lv_aload_n hx hb dL_law_833 rfl (lv_at hl 2 rfl) ?_
  refine kCallP_i (mc := 0) (ms := 0) (W1 := fun _ : Unit => wQ cI cZ cO x a t b (qPass q (1 + (Y % 100))) ρ) (fun _ _ h => h) hP hD hS hA (fun _ => rfl) (va_runV (As := []) (rest := []) ⟨hx, hb, hml, hown, hts⟩ (c_X2_clock l D cI cZ cO cJ x a t b (qK (qPass q (1 + (Y % 100)))) (qHo (qPass q (1 + (Y % 100)))) (sT (qσ (qPass q (1 + (Y % 100))))) (sE (qσ (qPass q (1 + (Y % 100))))) (sD (qσ (qPass q (1 + (Y % 100))))) (sF (qσ (qPass q (1 + (Y % 100))))) (sS (qσ (qPass q (1 + (Y % 100))))) (sC (qσ (qPass q (1 + (Y % 100))))) (sL (qσ (qPass q (1 + (Y % 100))))) (sT ρ) (sE ρ) (sD ρ) (sF ρ) (sS ρ) (sC ρ) (sL ρ) (qLo (qPass q (1 + (Y % 100)))) (qSe (qPass q (1 + (Y % 100)))) (qEf (qPass q (1 + (Y % 100)))) (qgp (qPass q (1 + (Y % 100)))) (qgi (qPass q (1 + (Y % 100)))) (qam (qPass q (1 + (Y % 100)))) (qli (qPass q (1 + (Y % 100)))) (qdl (qPass q (1 + (Y % 100)))) H.size ) (cwV (rm := rmX2_clock) 0 hts gL_law_X2_clock rfl rfl rfl (by decide +kernel) ⟨Nat.le_of_ble_eq_true rfl, Nat.le_of_ble_eq_true rfl⟩) (kPreVW hK hN (pfP hP) (pfD hD) (va_recv hK (pfP hP) (ci := 2) (q0 := 0) rfl rfl)) rfl rfl hl.1 rfl (lv_room (Nat.le_of_ble_eq_true rfl)) dL_law_834 ⟨by show _ ≤ 743239; omega, by show _ ≤ 6871752; omega⟩) (fun r9 u9 H locs hr9 hP hD hS => ?_)
  have hr9 : r9 = nI (qK (qPass q (1 + (Y % 100)))) := hr9
  subst hr9
  refine lv_iload hx hb dL_law_837 (lv_at hl 0 rfl) ?_
  refine lv_iconst (v := nI 1) hx hb dL_law_839 (by decide +kernel) ?_
  refine lv_iadd hx hb dL_law_840 ?_
  refine k_as (nI_add _ _) ?_
  refine lv_iload hx hb dL_law_841 (lv_at hl 9 rfl) ?_
  refine lv_bipush (v := nI 100) hx hb dL_law_843 (by decide +kernel) ?_
  refine lv_irem hx hb dL_law_845 (by decide +kernel) ?_
  refine k_as (y := nI (Y % 100)) (nI_mod (by omega) (by decide) (by decide)) ?_
  refine lv_iadd hx hb dL_law_846 ?_
  refine k_as (nI_add _ _) ?_
  refine lv_icmp_ne (tgt := 854) hx hb dL_law_847 (by decide) (fun c9 => absurd (congrArg nI (show qK q + (1 + Y % 100) = _ by omega)) c9) (fun _ => ?_)
  refine lv_iconst (v := nI 1) hx hb dL_law_850 (by decide +kernel) ?_
  refine lv_goto (tgt := 855) hx hb dL_law_851 (by decide) ?_
  refine lv_istore (lv' := [(5, .int (nI 1)), (12, .int (nI (qK q))), (0, .ref bs), (1, .ref (x 0)), (2, .ref ae), (3, .ref az), (4, .ref ap), (6, .int (nI n)), (7, .int (nI X)), (8, .int (nI Y)), (10, .int (nI Z)), (11, .int (nI Fn))]) hx hb dL_law_855 hl (by decide) rfl (fun ls hl => ?_)
  refine lv_goto (tgt := 880) hx hb dL_law_857 (by decide) ?_
  refine W.widen (k := cl + 1) (n := sl + 6) (by omega) (by omega) ?_
  exact kk (qPass q (1 + (Y % 100))) ρ pf ef zf B hQ1 (show qK q + (1 + Y % 100) ≤ _ by omega) hp.pass hE hZ H locs hP hD hS ls (lv_sub hl [2, 3, 4, 5, 6, 0, 7, 8] rfl)

set_option maxHeartbeats 4000000 in
set_option maxRecDepth 100000 in
theorem br_ask {Y Z Fn : Nat} (h0 : LC p l s m args c D cI cZ cO cJ bs L xs A) (hn : n < 100) (hY : Y < 67108864) (hz : Z < 6) (hf : Fn < 8) (hcl : cl + 60 ≤ 743239) (hsl : sl + 360 ≤ 6871752) (hQ : QOK q) (hk : qK q ≤ 100 * n) (hp : PR pf q B) (hE : ER ef q) (hZ : ZR zf q) (hP : va_P D vwCl (wQ cI cZ cO x a t b q ρ ++ [(ap, .inl (cI, 6, .inl pf)), (ae, .inl (cI, 48, .inl ef)), (az, .inl (cI, 30, .inl zf))]) H) (hD : va_D A (wQ cI cZ cO x a t b q ρ ++ [(ap, .inl (cI, 6, .inl pf)), (ae, .inl (cI, 48, .inl ef)), (az, .inl (cI, 30, .inl zf))])) (hS : va_S A s.heap H locs) (hl : lv_has ls 14 [(0, .ref bs), (1, .ref (x 0)), (2, .ref ae), (3, .ref az), (4, .ref ap), (5, .int (nI 1)), (6, .int (nI n)), (7, .int (nI X)), (8, .int (nI Y)), (10, .int (nI Z)), (11, .int (nI Fn))]) (kk : Tl p l e s m args below meth c D cI cZ cO x a t b ap ae az bs A Q n X (cl + 1) (sl + 6)) : W p l e room_1 s m args below meth c H locs cl sl Q (F0 m 860 ls []) := by
  obtain ⟨hx, hb, hml, hts, hown, hK, hN, hX, hC, hA, hsc, hbl, hbA, hst, hL⟩ := h0
  refine lv_aload_n hx hb dL_law_860 rfl (lv_at hl 1 rfl) ?_
  refine lv_iload hx hb dL_law_861 (lv_at hl 9 rfl) ?_
  refine lv_iconst (v := nI 1) hx hb dL_law_863 (by decide +kernel) ?_
  refine lv_iload hx hb dL_law_864 (lv_at hl 8 rfl) ?_
  refine lv_bipush (v := nI 6) hx hb dL_law_866 (by decide +kernel) ?_
  refine lv_idiv hx hb dL_law_868 (by decide +kernel) ?_
  refine k_as (y := nI (Y / 6)) (nI_div (by omega) (by decide) (by decide)) ?_
  refine lv_bipush (v := nI 20) hx hb dL_law_869 (by decide +kernel) ?_
  refine lv_irem hx hb dL_law_871 (by decide +kernel) ?_
  refine k_as (y := nI ((Y / 6) % 20)) (nI_mod (by omega) (by decide) (by decide)) ?_
  refine lv_iadd hx hb dL_law_872 ?_
  refine k_as (nI_add _ _) ?_
  refine k_as (y := nI (Y / 6 % 20 + 1)) (congrArg nI (Nat.add_comm _ _)) ?_
  refine lv_aload hx hb dL_law_873 (lv_at hl 4 rfl) ?_
  have hPc : va_P D vwCl ((wQ cI cZ cO x a t b q ρ ++ [(ap, .inl (cI, 6, .inl pf))]) ++ [(ae, .inl (cI, 48, .inl ef)), (az, .inl (cI, 30, .inl zf))]) H := by rw [List.append_assoc]; exact hP
  have hDc : va_D A ((wQ cI cZ cO x a t b q ρ ++ [(ap, .inl (cI, 6, .inl pf))]) ++ [(ae, .inl (cI, 48, .inl ef)), (az, .inl (cI, 30, .inl zf))]) := by rw [List.append_assoc]; exact hD
  refine kCallP_i (mc := 0) (ms := 0) (T := [(ae, .inl (cI, 48, .inl ef)), (az, .inl (cI, 30, .inl zf))]) (W1 := fun ρ : HS => wQ cI cZ cO x a t b q ρ ++ [(ap, .inl (cI, 6, .inl pf))]) (fun _ _ h => h) hPc hDc hS hA (fun _ => rfl) (va_runS (As := [.ref (x 0), .int (nI Z), .int (nI (Y / 6 % 20 + 1)), .ref ap]) (rest := []) ⟨hx, hb, hml, hown, hts⟩ (c_L_isAsked l D cI cZ cO cJ x a t b q ρ ap pf B Z (Y / 6 % 20) H.size hQ hp hz (by omega)) (va_cwS (rm := rmL_isAsked) 4 hts gL_law_L_isAsked rfl rfl rfl (by decide +kernel) ⟨Nat.le_of_ble_eq_true rfl, Nat.le_of_ble_eq_true rfl⟩) (kPreSHW hK hN hX hC (pfP hPc) (pfD hDc) hS (kfree (pfD hDc) hS hA)) rfl rfl hl.1 rfl (lv_room (Nat.le_of_ble_eq_true rfl)) dL_law_875 ⟨by show _ ≤ 743239; omega, by show _ ≤ 6871752; omega⟩) (fun r9 ρ H locs hr9 hP hD hS => ?_)
  have hr9 : r9 = nI 1 := hr9
  subst hr9
  have hP : va_P D vwCl (wQ cI cZ cO x a t b q ρ ++ [(ap, .inl (cI, 6, .inl pf)), (ae, .inl (cI, 48, .inl ef)), (az, .inl (cI, 30, .inl zf))]) H := by rw [List.append_assoc] at hP; exact hP
  have hD : va_D A (wQ cI cZ cO x a t b q ρ ++ [(ap, .inl (cI, 6, .inl pf)), (ae, .inl (cI, 48, .inl ef)), (az, .inl (cI, 30, .inl zf))]) := by rw [List.append_assoc] at hD; exact hD
  refine lv_istore (lv' := [(5, .int (nI 1)), (0, .ref bs), (1, .ref (x 0)), (2, .ref ae), (3, .ref az), (4, .ref ap), (6, .int (nI n)), (7, .int (nI X)), (8, .int (nI Y)), (10, .int (nI Z)), (11, .int (nI Fn))]) hx hb dL_law_878 hl (by decide) rfl (fun ls hl => ?_)
  refine W.widen (k := cl + 1) (n := sl + 6) (by omega) (by omega) ?_
  exact kk q ρ pf ef zf B hQ (by omega) hp hE hZ H locs hP hD hS ls (lv_sub hl [1, 2, 3, 4, 5, 0, 6, 7] rfl)

set_option maxHeartbeats 4000000 in
set_option maxRecDepth 100000 in
theorem law_tl (h0 : LC p l s m args c D cI cZ cO cJ bs L xs A) (hn : n < 100) (hX0 : X < 2147483648) (hcl : cl + 60 ≤ 743239) (hsl : sl + 360 ≤ 6871752) (kk : Hd p l e s m args below meth c D cI cZ cO x a t b ap ae az bs A Q (n + 1) (cl + 48) (sl + 288)) : Tl p l e s m args below meth c D cI cZ cO x a t b ap ae az bs A Q n X cl sl := by
  intro q ρ pf ef zf B hQ hk hp hE hZ H locs hP hD hS ls hl
  obtain ⟨hx, hb, hml, hts, hown, hK, hN, hX, hC, hA, hsc, hbl, hbA, hst, hL⟩ := h0
  refine lv_iconst (v := nI 0) hx hb dL_law_880 (by decide +kernel) ?_
  refine lv_istore (lv' := [(12, .int (nI 0)), (0, .ref bs), (1, .ref (x 0)), (2, .ref ae), (3, .ref az), (4, .ref ap), (5, .int (nI 1)), (6, .int (nI n)), (7, .int (nI X))]) hx hb dL_law_881 hl (by decide) rfl (fun ls hl => ?_)
  have lp : ∀ (n9 k : Nat), k + n9 = 8 → ∀ ρ : HS, ∀ (H : Heap) (locs : List Loc), va_P D vwCl (wQ cI cZ cO x a t b q ρ ++ [(ap, .inl (cI, 6, .inl pf)), (ae, .inl (cI, 48, .inl ef)), (az, .inl (cI, 30, .inl zf))]) H → va_D A (wQ cI cZ cO x a t b q ρ ++ [(ap, .inl (cI, 6, .inl pf)), (ae, .inl (cI, 48, .inl ef)), (az, .inl (cI, 30, .inl zf))]) → va_S A s.heap H locs → ∀ ls : Array Slot, lv_has ls 14 [(0, .ref bs), (1, .ref (x 0)), (2, .ref ae), (3, .ref az), (4, .ref ap), (5, .int (nI 1)), (6, .int (nI n)), (7, .int (nI X)), (12, .int (nI k))] → W p l e room_1 s m args below meth c H locs cl sl Q (F0 m 883 ls []) := by
    intro n9
    induction n9 with
    | zero =>
      intro k hz9 ρ H locs hP hD hS ls hl
      have hz9 : k = 8 := by omega
      subst hz9
      refine lv_iload hx hb dL_law_883 (lv_at hl 8 rfl) ?_
      refine lv_bipush (v := nI 8) hx hb dL_law_885 (by decide +kernel) ?_
      refine lv_icmp_ge (tgt := 934) hx hb dL_law_887 (by decide) (fun _ => ?_) (fun c9 => absurd (nI_le (Nat.le_refl 8) (by decide)) c9)
      refine lv_iload hx hb dL_law_934 (lv_at hl 5 rfl) ?_
      refine lv_if_eq (tgt := 964) hx hb dL_law_936 (by decide) (fun c9 => absurd c9 (by decide +kernel)) (fun _ => ?_)
      refine lv_iload hx hb dL_law_939 (lv_at hl 6 rfl) ?_
      refine lv_bipush (v := nI 20) hx hb dL_law_941 (by decide +kernel) ?_
      refine lv_irem hx hb dL_law_943 (by decide +kernel) ?_
      refine k_as (y := nI (n % 20)) (nI_mod (by omega) (by decide) (by decide)) ?_
      by_cases c2 : n % 20 = 0
      · refine k_as (y := nI 0) (congrArg nI c2) ?_
        refine lv_if_gt (tgt := 960) hx hb dL_law_944 (by decide) (fun c9 => absurd c9 (by decide +kernel)) (fun _ => ?_)
        refine lv_aload_n hx hb dL_law_947 rfl (lv_at hl 1 rfl) ?_
        refine lv_aload hx hb dL_law_948 (lv_at hl 4 rfl) ?_
        refine lv_iload hx hb dL_law_950 (lv_at hl 7 rfl) ?_
        refine lv_iconst (v := nI 3) hx hb dL_law_952 (by decide +kernel) ?_
        refine lv_idiv hx hb dL_law_953 (by decide +kernel) ?_
        refine k_as (y := nI (X / 3)) (nI_div (by omega) (by decide) (by decide)) ?_
        have hPc : va_P D vwCl ((wQ cI cZ cO x a t b q ρ ++ [(ap, .inl (cI, 6, .inl pf))]) ++ [(ae, .inl (cI, 48, .inl ef)), (az, .inl (cI, 30, .inl zf))]) H := by rw [List.append_assoc]; exact hP
        have hDc : va_D A ((wQ cI cZ cO x a t b q ρ ++ [(ap, .inl (cI, 6, .inl pf))]) ++ [(ae, .inl (cI, 48, .inl ef)), (az, .inl (cI, 30, .inl zf))]) := by rw [List.append_assoc]; exact hD
        refine kCallP_i (mc := 48) (ms := 288) (T := [(ae, .inl (cI, 48, .inl ef)), (az, .inl (cI, 30, .inl zf))]) (W1 := fun ρ : HS => wQ cI cZ cO x a t b q ρ ++ [(ap, .inl (cI, 6, .inl pf))]) (fun _ _ h => h) hPc hDc hS hA (fun _ => rfl) (va_runS (As := [.ref (x 0), .ref ap, .int (nI (X / 3))]) (rest := []) ⟨hx, hb, hml, hown, hts⟩ (c_L_isRefused l hst D cI cZ cO cJ x a t b q ρ ap pf B (X / 3) H.size hQ hp (by omega)) (va_cwS (rm := rxL_isRefused) 3 hts gL_law_L_isRefused rfl rfl rfl (by decide +kernel) ⟨Nat.le_of_ble_eq_true rfl, Nat.le_of_ble_eq_true rfl⟩) (kPreSHW hK hN hX hC (pfP hPc) (pfD hDc) hS (kfree (pfD hDc) hS hA)) rfl rfl hl.1 rfl (lv_room (Nat.le_of_ble_eq_true rfl)) dL_law_954 ⟨by show _ ≤ 743239; omega, by show _ ≤ 6871752; omega⟩) (fun r9 ρ H locs hr9 hP hD hS => ?_)
        have hr9 : r9 = nI 1 := hr9
        subst hr9
        have hP : va_P D vwCl (wQ cI cZ cO x a t b q ρ ++ [(ap, .inl (cI, 6, .inl pf)), (ae, .inl (cI, 48, .inl ef)), (az, .inl (cI, 30, .inl zf))]) H := by rw [List.append_assoc] at hP; exact hP
        have hD : va_D A (wQ cI cZ cO x a t b q ρ ++ [(ap, .inl (cI, 6, .inl pf)), (ae, .inl (cI, 48, .inl ef)), (az, .inl (cI, 30, .inl zf))]) := by rw [List.append_assoc] at hD; exact hD
        refine W.widen (k := cl + 48) (n := sl + 288) (by omega) (by omega) ?_
        refine lv_if_eq (tgt := 964) hx hb dL_law_957 (by decide) (fun c9 => absurd c9 (by decide +kernel)) (fun _ => ?_)
        refine lv_iconst (v := nI 1) hx hb dL_law_960 (by decide +kernel) ?_
        refine lv_goto (tgt := 965) hx hb dL_law_961 (by decide) ?_
        refine lv_istore (lv' := [(5, .int (nI 1)), (0, .ref bs), (1, .ref (x 0)), (2, .ref ae), (3, .ref az), (4, .ref ap), (6, .int (nI n)), (7, .int (nI X)), (12, .int (nI 8))]) hx hb dL_law_965 hl (by decide) rfl (fun ls hl => ?_)
        refine lv_iinc (v := nI (n + 1)) (lv' := [(6, .int (nI (n + 1))), (5, .int (nI 1)), (0, .ref bs), (1, .ref (x 0)), (2, .ref ae), (3, .ref az), (4, .ref ap), (7, .int (nI X)), (12, .int (nI 8))]) hx hb dL_law_967 hl (k := 6) rfl (k_inc _) (by decide) rfl (fun ls hl => ?_)
        refine lv_goto (tgt := 138) hx hb dL_law_970 (by decide) ?_
        exact kk q ρ pf ef zf B hQ (by omega) hp hE hZ H locs hP hD hS ls (lv_sub hl [2, 3, 4, 5, 6, 1, 0] rfl)
      · refine lv_if_gt (tgt := 960) hx hb dL_law_944 (by decide) (fun _ => ?_) (fun c9 => absurd (by rw [← nI_0]; exact nI_lt (by omega) (by omega)) c9)
        refine lv_iconst (v := nI 1) hx hb dL_law_960 (by decide +kernel) ?_
        refine lv_goto (tgt := 965) hx hb dL_law_961 (by decide) ?_
        refine lv_istore (lv' := [(5, .int (nI 1)), (0, .ref bs), (1, .ref (x 0)), (2, .ref ae), (3, .ref az), (4, .ref ap), (6, .int (nI n)), (7, .int (nI X)), (12, .int (nI 8))]) hx hb dL_law_965 hl (by decide) rfl (fun ls hl => ?_)
        refine lv_iinc (v := nI (n + 1)) (lv' := [(6, .int (nI (n + 1))), (5, .int (nI 1)), (0, .ref bs), (1, .ref (x 0)), (2, .ref ae), (3, .ref az), (4, .ref ap), (7, .int (nI X)), (12, .int (nI 8))]) hx hb dL_law_967 hl (k := 6) rfl (k_inc _) (by decide) rfl (fun ls hl => ?_)
        refine lv_goto (tgt := 138) hx hb dL_law_970 (by decide) ?_
        refine W.widen (k := cl + 48) (n := sl + 288) (by omega) (by omega) ?_
        exact kk q ρ pf ef zf B hQ (by omega) hp hE hZ H locs hP hD hS ls (lv_sub hl [2, 3, 4, 5, 6, 1, 0] rfl)
    | succ n9 ih =>
      intro k hz9 ρ H locs hP hD hS ls hl
      have hzb : k < 8 := by omega
      refine lv_iload hx hb dL_law_883 (lv_at hl 8 rfl) ?_
      refine lv_bipush (v := nI 8) hx hb dL_law_885 (by decide +kernel) ?_
      refine lv_icmp_ge (tgt := 934) hx hb dL_law_887 (by decide) (fun c9 => absurd c9 (nI_ge hzb (by decide))) (fun _ => ?_)
      refine lv_iload hx hb dL_law_890 (lv_at hl 5 rfl) ?_
      refine lv_if_eq (tgt := 934) hx hb dL_law_892 (by decide) (fun c9 => absurd c9 (by decide +kernel)) (fun _ => ?_)
      refine lv_aload_n hx hb dL_law_895 rfl (lv_at hl 1 rfl) ?_
      refine lv_aload hx hb dL_law_896 (lv_at hl 4 rfl) ?_
      refine lv_iload hx hb dL_law_898 (lv_at hl 8 rfl) ?_
      have hPc : va_P D vwCl ((wQ cI cZ cO x a t b q ρ ++ [(ap, .inl (cI, 6, .inl pf))]) ++ [(ae, .inl (cI, 48, .inl ef)), (az, .inl (cI, 30, .inl zf))]) H := by rw [List.append_assoc]; exact hP
      have hDc : va_D A ((wQ cI cZ cO x a t b q ρ ++ [(ap, .inl (cI, 6, .inl pf))]) ++ [(ae, .inl (cI, 48, .inl ef)), (az, .inl (cI, 30, .inl zf))]) := by rw [List.append_assoc]; exact hD
      refine kCallP_i (mc := 0) (ms := 0) (T := [(ae, .inl (cI, 48, .inl ef)), (az, .inl (cI, 30, .inl zf))]) (W1 := fun ρ : HS => wQ cI cZ cO x a t b q ρ ++ [(ap, .inl (cI, 6, .inl pf))]) (fun _ _ h => h) hPc hDc hS hA (fun _ => rfl) (va_runS (As := [.ref (x 0), .ref ap, .int (nI k)]) (rest := []) ⟨hx, hb, hml, hown, hts⟩ (c_L_isFan l D cI cZ cO cJ x a t b q ρ ap pf B k H.size hQ hp (by omega)) (va_cwS (rm := rmL_isFan) 3 hts gL_law_L_isFan rfl rfl rfl (by decide +kernel) ⟨Nat.le_of_ble_eq_true rfl, Nat.le_of_ble_eq_true rfl⟩) (kPreSHW hK hN hX hC (pfP hPc) (pfD hDc) hS (kfree (pfD hDc) hS hA)) rfl rfl hl.1 rfl (lv_room (Nat.le_of_ble_eq_true rfl)) dL_law_900 ⟨by show _ ≤ 743239; omega, by show _ ≤ 6871752; omega⟩) (fun r9 ρ H locs hr9 hP hD hS => ?_)
      have hr9 : r9 = nI 1 := hr9
      subst hr9
      have hP : va_P D vwCl (wQ cI cZ cO x a t b q ρ ++ [(ap, .inl (cI, 6, .inl pf)), (ae, .inl (cI, 48, .inl ef)), (az, .inl (cI, 30, .inl zf))]) H := by rw [List.append_assoc] at hP; exact hP
      have hD : va_D A (wQ cI cZ cO x a t b q ρ ++ [(ap, .inl (cI, 6, .inl pf)), (ae, .inl (cI, 48, .inl ef)), (az, .inl (cI, 30, .inl zf))]) := by rw [List.append_assoc] at hD; exact hD
      refine lv_if_eq (tgt := 925) hx hb dL_law_903 (by decide) (fun c9 => absurd c9 (by decide +kernel)) (fun _ => ?_)
      refine lv_iload hx hb dL_law_906 (lv_at hl 8 rfl) ?_
      refine lv_iconst (v := nI 5) hx hb dL_law_908 (by decide +kernel) ?_
      by_cases c1 : k < 6
      · refine lv_icmp_gt (tgt := 921) hx hb dL_law_909 (by decide) (fun c9 => absurd c9 (nI_nlt (by omega) (by decide))) (fun _ => ?_)
        refine lv_aload_n hx hb dL_law_912 rfl (lv_at hl 1 rfl) ?_
        refine lv_iload hx hb dL_law_913 (lv_at hl 8 rfl) ?_
        refine kCallP_i (mc := 0) (ms := 0) (T := [(ap, .inl (cI, 6, .inl pf)), (ae, .inl (cI, 48, .inl ef)), (az, .inl (cI, 30, .inl zf))]) (W1 := fun ρ : HS => wQ cI cZ cO x a t b q ρ) (fun _ _ h => h) hP hD hS hA (fun _ => rfl) (va_runS (As := [.ref (x 0), .int (nI k)]) (rest := []) ⟨hx, hb, hml, hown, hts⟩ (c_L_isZone l D cI cZ cO cJ x a t b q ρ k H.size hQ (by omega)) (va_cwS (rm := rmL_isZone) 2 hts gL_law_L_isZone rfl rfl rfl (by decide +kernel) ⟨Nat.le_of_ble_eq_true rfl, Nat.le_of_ble_eq_true rfl⟩) (kPreSHW hK hN hX hC (pfP hP) (pfD hD) hS (kfree (pfD hD) hS hA)) rfl rfl hl.1 rfl (lv_room (Nat.le_of_ble_eq_true rfl)) dL_law_915 ⟨by show _ ≤ 743239; omega, by show _ ≤ 6871752; omega⟩) (fun r9 ρ H locs hr9 hP hD hS => ?_)
        have hr9 : r9 = nI 1 := hr9
        subst hr9
        refine lv_if_eq (tgt := 925) hx hb dL_law_918 (by decide) (fun c9 => absurd c9 (by decide +kernel)) (fun _ => ?_)
        refine lv_iconst (v := nI 1) hx hb dL_law_921 (by decide +kernel) ?_
        refine lv_goto (tgt := 926) hx hb dL_law_922 (by decide) ?_
        refine lv_istore (lv' := [(5, .int (nI 1)), (0, .ref bs), (1, .ref (x 0)), (2, .ref ae), (3, .ref az), (4, .ref ap), (6, .int (nI n)), (7, .int (nI X)), (12, .int (nI k))]) hx hb dL_law_926 hl (by decide) rfl (fun ls hl => ?_)
        refine lv_iinc (v := nI (k + 1)) (lv' := [(12, .int (nI (k + 1))), (5, .int (nI 1)), (0, .ref bs), (1, .ref (x 0)), (2, .ref ae), (3, .ref az), (4, .ref ap), (6, .int (nI n)), (7, .int (nI X))]) hx hb dL_law_928 hl (k := 8) rfl (k_inc _) (by decide) rfl (fun ls hl => ?_)
        refine lv_goto (tgt := 883) hx hb dL_law_931 (by decide) ?_
        exact ih (k + 1) (by omega) ρ H locs hP hD hS ls (lv_sub hl [2, 3, 4, 5, 6, 1, 7, 8, 0] rfl)
      · refine lv_icmp_gt (tgt := 921) hx hb dL_law_909 (by decide) (fun _ => ?_) (fun c9 => absurd (nI_lt (by omega) (by omega)) c9)
        refine lv_iconst (v := nI 1) hx hb dL_law_921 (by decide +kernel) ?_
        refine lv_goto (tgt := 926) hx hb dL_law_922 (by decide) ?_
        refine lv_istore (lv' := [(5, .int (nI 1)), (0, .ref bs), (1, .ref (x 0)), (2, .ref ae), (3, .ref az), (4, .ref ap), (6, .int (nI n)), (7, .int (nI X)), (12, .int (nI k))]) hx hb dL_law_926 hl (by decide) rfl (fun ls hl => ?_)
        refine lv_iinc (v := nI (k + 1)) (lv' := [(12, .int (nI (k + 1))), (5, .int (nI 1)), (0, .ref bs), (1, .ref (x 0)), (2, .ref ae), (3, .ref az), (4, .ref ap), (6, .int (nI n)), (7, .int (nI X))]) hx hb dL_law_928 hl (k := 8) rfl (k_inc _) (by decide) rfl (fun ls hl => ?_)
        refine lv_goto (tgt := 883) hx hb dL_law_931 (by decide) ?_
        exact ih (k + 1) (by omega) ρ H locs hP hD hS ls (lv_sub hl [2, 3, 4, 5, 6, 1, 7, 8, 0] rfl)
  exact lp 8 0 rfl ρ H locs hP hD hS ls (lv_sub hl [1, 2, 3, 4, 5, 6, 7, 8, 0] rfl)

end LB
