set_option maxHeartbeats 4000000 in
set_option maxRecDepth 100000 in
theorem c_L_isMinute (l : Launch) (D : va_G) (cI cZ cO cJ : ClassId) (x a t b : Nat → Nat) (q : QS) (ρ : HS) (ap ae az : Nat) (pf ef zf : Nat → Int32) (B : Nat) (sz : Nat) (hQ : QOK q) (hck : qK q + 1 ≤ 100000) (hp : PR pf q B) (hE : ER ef q) (hZ : ZR zf q) : kMH l yL_isMinute wsL_isMinute rmL_isMinute D (kT cI cZ cO cJ) [.ref (x 0), .ref ae, .ref az, .ref ap] (wQ cI cZ cO x a t b q ρ ++ [(ap, .inl (cI, 6, .inl pf)), (ae, .inl (cI, 48, .inl ef)), (az, .inl (cI, 30, .inl zf))]) (fun u : HS => wQ cI cZ cO x a t b (qPass q 1) u ++ [(ap, .inl (cI, 6, .inl pf)), (ae, .inl (cI, 48, .inl ef)), (az, .inl (cI, 30, .inl (zM q zf 6)))]) 0 0 sz (nI 1) := by
  refine kEnterQ (cc := cL_isMinute) (maxL := 20) (ret := some .boolean) (by decide +kernel) rfl (Nat.le_of_ble_eq_true rfl) ?_
  intro p e s m below meth c args hx hb hr hml hts hown hlocks hK hN A hA9 Q hQ9 hP hD hsz hS hA hX hC ls hl
  have hl : lv_has ls 20 [(0, .ref (x 0)), (1, .ref ae), (2, .ref az), (3, .ref ap)] := hl
  obtain ⟨H, hH9⟩ : ∃ H, H = s.heap := ⟨_, rfl⟩
  rw [← hH9] at hP ⊢
  have hS : va_S A s.heap H [] := by rw [hH9]; exact va_S.rf
  have hlocs : ∃ locs : List Loc, locs = [] := ⟨_, rfl⟩
  obtain ⟨locs, hlocs⟩ := hlocs
  rw [← hlocs] at hS ⊢
  have hQ1 : QOK (qPass q 1) := hQ.pass 1 hck
  have hck9 := hQ.2.2.2.2.2.2
  have h0 : MC p l s m args c D cI cZ cO cJ A := ⟨hx, hb, hml, hts, hown, hK, hN, hX, hC, hA⟩
  refine lv_iconst (v := nI 0) hx hb dL_isMinute_0 (by decide +kernel) ?_
  refine lv_istore (lv' := [(4, .int (nI 0)), (0, .ref (x 0)), (1, .ref ae), (2, .ref az), (3, .ref ap)]) hx hb dL_isMinute_1 hl (by decide) rfl (fun ls hl => ?_)
  refine lv_aload_n hx hb dL_isMinute_3 rfl (lv_at hl 1 rfl) ?_
  refine kCallP_i (mc := 0) (ms := 0) (W1 := fun _ : Unit => wQ cI cZ cO x a t b q ρ) (fun _ _ h => h) hP hD hS hA (fun _ => rfl) (va_runV (As := []) (rest := []) ⟨hx, hb, hml, hown, hts⟩ (c_X2_clock l D cI cZ cO cJ x a t b (qK q) (qHo q) (sT (qσ q)) (sE (qσ q)) (sD (qσ q)) (sF (qσ q)) (sS (qσ q)) (sC (qσ q)) (sL (qσ q)) (sT ρ) (sE ρ) (sD ρ) (sF ρ) (sS ρ) (sC ρ) (sL ρ) (qLo q) (qSe q) (qEf q) (qgp q) (qgi q) (qam q) (qli q) (qdl q) H.size ) (cwV (rm := rmX2_clock) 0 hts gL_isMinute_X2_clock rfl rfl rfl (by decide +kernel) ⟨Nat.le_of_ble_eq_true rfl, Nat.le_of_ble_eq_true rfl⟩) (kPreVW hK hN (pfP hP) (pfD hD) (va_recv hK (pfP hP) (ci := 2) (q0 := 0) rfl rfl)) rfl rfl hl.1 rfl (lv_room (Nat.le_of_ble_eq_true rfl)) dL_isMinute_4 ⟨Nat.zero_le _, Nat.zero_le _⟩) (fun r9 u9 H locs hr9 hP hD hS => ?_)
  have hr9 : r9 = nI (qK q) := hr9
  subst hr9
  refine lv_istore (lv' := [(5, .int (nI (qK q))), (4, .int (nI 0)), (0, .ref (x 0)), (1, .ref ae), (2, .ref az), (3, .ref ap)]) hx hb dL_isMinute_7 hl (by decide) rfl (fun ls hl => ?_)
  refine lv_aload_n hx hb dL_isMinute_9 rfl (lv_at hl 2 rfl) ?_
  refine lv_iconst (v := nI 2) hx hb dL_isMinute_10 (by decide +kernel) ?_
  refine lv_iconst (v := nI 1) hx hb dL_isMinute_11 (by decide +kernel) ?_
  refine kCallP_i (mc := 0) (ms := 0) (W1 := fun ρ : HS => wQ cI cZ cO x a t b q ρ) (fun _ _ h => h) hP hD hS hA (fun _ => rfl) (va_runV (As := [.int (nI 2), .int (nI 1)]) (rest := []) ⟨hx, hb, hml, hown, hts⟩ (c_X2_expected l D cI cZ cO cJ x a t b (qK q) (qHo q) (qσ q) (sT ρ) (sE ρ) (sD ρ) (sF ρ) (sS ρ) (sC ρ) (sL ρ) (qLo q) (qSe q) (qEf q) (qgp q) (qgi q) (qam q) (qli q) (qdl q) 2 0 H.size (by decide) (by decide) hQ.la hQ.dl hQ.F) (cwV (rm := rmX2_expected) 2 hts gL_isMinute_X2_expected rfl rfl rfl (by decide +kernel) ⟨Nat.le_of_ble_eq_true rfl, Nat.le_of_ble_eq_true rfl⟩) (kPreVW hK hN (pfP hP) (pfD hD) (va_recv hK (pfP hP) (ci := 2) (q0 := 0) rfl rfl)) rfl rfl hl.1 rfl (lv_room (Nat.le_of_ble_eq_true rfl)) dL_isMinute_12 ⟨Nat.zero_le _, Nat.zero_le _⟩) (fun r9 ρ H locs hr9 hP hD hS => ?_)
  have hr9 : r9 = qE q 2 0 := hr9
  subst hr9
  refine lv_istore (lv' := [(6, .int (qE q 2 0)), (5, .int (nI (qK q))), (4, .int (nI 0)), (0, .ref (x 0)), (1, .ref ae), (2, .ref az), (3, .ref ap)]) hx hb dL_isMinute_15 hl (by decide) rfl (fun ls hl => ?_)
  refine lv_iconst (v := nI 0) hx hb dL_isMinute_17 (by decide +kernel) ?_
  refine lv_istore (lv' := [(7, .int (nI 0)), (6, .int (qE q 2 0)), (5, .int (nI (qK q))), (4, .int (nI 0)), (0, .ref (x 0)), (1, .ref ae), (2, .ref az), (3, .ref ap)]) hx hb dL_isMinute_18 hl (by decide) rfl (fun ls hl => ?_)
  have lp : ∀ (n z : Nat), z + n = 6 → ∀ ρ : HS, ∀ (H : Heap) (locs : List Loc), va_P D vwCl (wQ cI cZ cO x a t b q ρ ++ [(ap, .inl (cI, 6, .inl pf)), (ae, .inl (cI, 48, .inl ef)), (az, .inl (cI, 30, .inl (zM q zf z)))]) H → va_D A (wQ cI cZ cO x a t b q ρ ++ [(ap, .inl (cI, 6, .inl pf)), (ae, .inl (cI, 48, .inl ef)), (az, .inl (cI, 30, .inl (zM q zf z)))]) → va_S A s.heap H locs → ∀ ls : Array Slot, lv_has ls 20 [(0, .ref (x 0)), (1, .ref ae), (2, .ref az), (3, .ref ap), (4, .int (nI 0)), (5, .int (nI (qK q))), (6, .int (qE q 2 0)), (7, .int (nI z))] → W p l e rmL_isMinute s m args below meth c H locs 0 0 Q (F0 m 20 ls []) := by
    intro n
    induction n with
    | zero =>
      intro z hz9 ρ H locs hP hD hS ls hl
      have hz9 : z = 6 := by omega
      subst hz9
      refine lv_iload hx hb dL_isMinute_20 (lv_at hl 7 rfl) ?_
      refine lv_bipush (v := nI 6) hx hb dL_isMinute_22 (by decide +kernel) ?_
      refine lv_icmp_ge (tgt := 72) hx hb dL_isMinute_24 (by decide) (fun _ => ?_) (fun c9 => absurd (nI_le (Nat.le_refl 6) (by decide)) c9)
      refine lv_aload_n hx hb dL_isMinute_72 rfl (lv_at hl 0 rfl) ?_
      refine lv_bipush (v := nI 6) hx hb dL_isMinute_73 (by decide +kernel) ?_
      refine lv_iconst (v := nI 1) hx hb dL_isMinute_75 (by decide +kernel) ?_
      refine lv_iconst (v := nI 0) hx hb dL_isMinute_76 (by decide +kernel) ?_
      refine lv_iconst (v := nI 0) hx hb dL_isMinute_77 (by decide +kernel) ?_
      refine kCallP_i (mc := 0) (ms := 0) (T := [(ap, .inl (cI, 6, .inl pf)), (ae, .inl (cI, 48, .inl ef)), (az, .inl (cI, 30, .inl (zM q zf 6)))]) (W1 := fun ρ : HS => wQ cI cZ cO x a t b (qPass q 1) ρ) (fun _ _ h => h) hP hD hS hA (fun _ => rfl) (vx_runSW (As := [.ref (x 0), .int (nI 6), .int (nI 1), .int (nI 0), .int (nI 0)]) (rest := []) ⟨hx, hb, hml, hown, hts⟩ (c_L_set_pass l D cI cZ cO cJ x a t b q ρ 1 (nI 0) (nI 0) H.size (by decide) (by decide) hQ hck) (vx_cwSW (rm := rmL_set) 5 hts gL_isMinute_L_set rfl rfl rfl (by decide +kernel) ⟨Nat.le_of_ble_eq_true rfl, Nat.le_of_ble_eq_true rfl⟩) (kPreSHW hK hN hX hC (pfP hP) (pfD hD) hS (kfree (pfD hD) hS hA)) rfl rfl hl.1 rfl (lv_room (Nat.le_of_ble_eq_true rfl)) dL_isMinute_78 ⟨Nat.zero_le _, Nat.zero_le _⟩) (fun r9 ρ H locs hr9 hP hD hS => ?_)
      have hr9 : r9 = pSum (qli q) (fun k => sT (qRn q k (qσ q))) 1 := hr9
      subst hr9
      refine k_as (y := mNot (qli q) (sT (qσ (qPass q 1))) 6) (mi_told q) ?_
      refine lv_istore (lv' := [(7, .int (mNot (qli q) (sT (qσ (qPass q 1))) 6)), (0, .ref (x 0)), (1, .ref ae), (2, .ref az), (3, .ref ap), (4, .int (nI 0)), (5, .int (nI (qK q))), (6, .int (qE q 2 0))]) hx hb dL_isMinute_81 hl (by decide) rfl (fun ls hl => ?_)
      refine lv_aload_n hx hb dL_isMinute_83 rfl (lv_at hl 1 rfl) ?_
      refine kCallP_i (mc := 0) (ms := 0) (W1 := fun _ : Unit => wQ cI cZ cO x a t b (qPass q 1) ρ) (fun _ _ h => h) hP hD hS hA (fun _ => rfl) (va_runV (As := []) (rest := []) ⟨hx, hb, hml, hown, hts⟩ (c_X2_clock l D cI cZ cO cJ x a t b (qK (qPass q 1)) (qHo (qPass q 1)) (sT (qσ (qPass q 1))) (sE (qσ (qPass q 1))) (sD (qσ (qPass q 1))) (sF (qσ (qPass q 1))) (sS (qσ (qPass q 1))) (sC (qσ (qPass q 1))) (sL (qσ (qPass q 1))) (sT ρ) (sE ρ) (sD ρ) (sF ρ) (sS ρ) (sC ρ) (sL ρ) (qLo (qPass q 1)) (qSe (qPass q 1)) (qEf (qPass q 1)) (qgp (qPass q 1)) (qgi (qPass q 1)) (qam (qPass q 1)) (qli (qPass q 1)) (qdl (qPass q 1)) H.size ) (cwV (rm := rmX2_clock) 0 hts gL_isMinute_X2_clock rfl rfl rfl (by decide +kernel) ⟨Nat.le_of_ble_eq_true rfl, Nat.le_of_ble_eq_true rfl⟩) (kPreVW hK hN (pfP hP) (pfD hD) (va_recv hK (pfP hP) (ci := 2) (q0 := 0) rfl rfl)) rfl rfl hl.1 rfl (lv_room (Nat.le_of_ble_eq_true rfl)) dL_isMinute_84 ⟨Nat.zero_le _, Nat.zero_le _⟩) (fun r9 u9 H locs hr9 hP hD hS => ?_)
      have hr9 : r9 = nI (qK (qPass q 1)) := hr9
      subst hr9
      refine lv_iload hx hb dL_isMinute_87 (lv_at hl 6 rfl) ?_
      refine lv_iconst (v := nI 1) hx hb dL_isMinute_89 (by decide +kernel) ?_
      refine lv_iadd hx hb dL_isMinute_90 ?_
      refine k_as (nI_add _ _) ?_
      refine lv_icmp_ne (tgt := 108) hx hb dL_isMinute_91 (by decide) (fun c9 => absurd rfl c9) (fun _ => ?_)
      refine lv_aload_n hx hb dL_isMinute_94 rfl (lv_at hl 1 rfl) ?_
      refine lv_iconst (v := nI 2) hx hb dL_isMinute_95 (by decide +kernel) ?_
      refine kCallP_i (mc := 0) (ms := 0) (W1 := fun _ : Unit => wQ cI cZ cO x a t b (qPass q 1) ρ) (fun _ _ h => h) hP hD hS hA (fun _ => rfl) (va_runV (As := [.int (nI 2)]) (rest := []) ⟨hx, hb, hml, hown, hts⟩ (c_X2_temperature l D cI cZ cO cJ x a t b (qK (qPass q 1)) (qHo (qPass q 1)) (sT (qσ (qPass q 1))) (sE (qσ (qPass q 1))) (sD (qσ (qPass q 1))) (sF (qσ (qPass q 1))) (sS (qσ (qPass q 1))) (sC (qσ (qPass q 1))) (sL (qσ (qPass q 1))) (sT ρ) (sE ρ) (sD ρ) (sF ρ) (sS ρ) (sC ρ) (sL ρ) (qLo (qPass q 1)) (qSe (qPass q 1)) (qEf (qPass q 1)) (qgp (qPass q 1)) (qgi (qPass q 1)) (qam (qPass q 1)) (qli (qPass q 1)) (qdl (qPass q 1)) 2 H.size (by decide)) (cwV (rm := rmX2_temperature) 1 hts gL_isMinute_X2_temperature rfl rfl rfl (by decide +kernel) ⟨Nat.le_of_ble_eq_true rfl, Nat.le_of_ble_eq_true rfl⟩) (kPreVW hK hN (pfP hP) (pfD hD) (va_recv hK (pfP hP) (ci := 2) (q0 := 0) rfl rfl)) rfl rfl hl.1 rfl (lv_room (Nat.le_of_ble_eq_true rfl)) dL_isMinute_96 ⟨Nat.zero_le _, Nat.zero_le _⟩) (fun r9 u9 H locs hr9 hP hD hS => ?_)
      have hr9 : r9 = sT (qσ (qPass q 1)) 2 := hr9
      subst hr9
      refine lv_iload hx hb dL_isMinute_99 (lv_at hl 7 rfl) ?_
      refine lv_icmp_ne (tgt := 108) hx hb dL_isMinute_101 (by decide) (fun c9 => absurd rfl c9) (fun _ => ?_)
      refine lv_iconst (v := nI 1) hx hb dL_isMinute_104 (by decide +kernel) ?_
      refine lv_goto (tgt := 109) hx hb dL_isMinute_105 (by decide) ?_
      refine lv_istore (lv' := [(8, .int (nI 1)), (7, .int (mNot (qli q) (sT (qσ (qPass q 1))) 6)), (0, .ref (x 0)), (1, .ref ae), (2, .ref az), (3, .ref ap), (4, .int (nI 0)), (5, .int (nI (qK q))), (6, .int (qE q 2 0))]) hx hb dL_isMinute_109 hl (by decide) rfl (fun ls hl => ?_)
      refine lv_iconst (v := nI 0) hx hb dL_isMinute_111 (by decide +kernel) ?_
      refine lv_istore (lv' := [(9, .int (nI 0)), (8, .int (nI 1)), (7, .int (mNot (qli q) (sT (qσ (qPass q 1))) 6)), (0, .ref (x 0)), (1, .ref ae), (2, .ref az), (3, .ref ap), (4, .int (nI 0)), (5, .int (nI (qK q))), (6, .int (qE q 2 0))]) hx hb dL_isMinute_112 hl (by decide) rfl (fun ls hl => ?_)
      have lq : ∀ (n2 z : Nat), z + n2 = 6 → ∀ ρ : HS, ∀ (H : Heap) (locs : List Loc), va_P D vwCl (wQ cI cZ cO x a t b (qPass q 1) ρ ++ [(ap, .inl (cI, 6, .inl pf)), (ae, .inl (cI, 48, .inl ef)), (az, .inl (cI, 30, .inl (zM q zf 6)))]) H → va_D A (wQ cI cZ cO x a t b (qPass q 1) ρ ++ [(ap, .inl (cI, 6, .inl pf)), (ae, .inl (cI, 48, .inl ef)), (az, .inl (cI, 30, .inl (zM q zf 6)))]) → va_S A s.heap H locs → ∀ ls : Array Slot, lv_has ls 20 [(0, .ref (x 0)), (1, .ref ae), (2, .ref az), (3, .ref ap), (4, .int (mNot (qli q) (sT (qσ (qPass q 1))) z)), (7, .int (mNot (qli q) (sT (qσ (qPass q 1))) 6)), (8, .int (nI 1)), (9, .int (nI z))] → W p l e rmL_isMinute s m args below meth c H locs 0 0 Q (F0 m 114 ls []) := by
        intro n2
        induction n2 with
        | zero =>
          intro z hz9 ρ H locs hP hD hS ls hl
          have hz9 : z = 6 := by omega
          subst hz9
          refine lv_iload hx hb dL_isMinute_114 (lv_at hl 7 rfl) ?_
          refine lv_bipush (v := nI 6) hx hb dL_isMinute_116 (by decide +kernel) ?_
          refine lv_icmp_ge (tgt := 613) hx hb dL_isMinute_118 (by decide) (fun _ => ?_) (fun c9 => absurd (nI_le (Nat.le_refl 6) (by decide)) c9)
          refine lv_iconst (v := nI 0) hx hb dL_isMinute_613 (by decide +kernel) ?_
          refine lv_istore (lv' := [(9, .int (nI 0)), (0, .ref (x 0)), (1, .ref ae), (2, .ref az), (3, .ref ap), (4, .int (mNot (qli q) (sT (qσ (qPass q 1))) 6)), (7, .int (mNot (qli q) (sT (qσ (qPass q 1))) 6)), (8, .int (nI 1))]) hx hb dL_isMinute_614 hl (by decide) rfl (fun ls hl => ?_)
          have ls4 : ∀ (n4 k : Nat), k + n4 = 8 → ∀ ρ : HS, ∀ (H : Heap) (locs : List Loc), va_P D vwCl (wQ cI cZ cO x a t b (qPass q 1) ρ ++ [(ap, .inl (cI, 6, .inl pf)), (ae, .inl (cI, 48, .inl ef)), (az, .inl (cI, 30, .inl (zM q zf 6)))]) H → va_D A (wQ cI cZ cO x a t b (qPass q 1) ρ ++ [(ap, .inl (cI, 6, .inl pf)), (ae, .inl (cI, 48, .inl ef)), (az, .inl (cI, 30, .inl (zM q zf 6)))]) → va_S A s.heap H locs → ∀ ls : Array Slot, lv_has ls 20 [(0, .ref (x 0)), (1, .ref ae), (2, .ref az), (3, .ref ap), (4, .int (mNot (qli q) (sT (qσ (qPass q 1))) 6)), (7, .int (mNot (qli q) (sT (qσ (qPass q 1))) 6)), (8, .int (nI 1)), (9, .int (nI k))] → W p l e rmL_isMinute s m args below meth c H locs 0 0 Q (F0 m 616 ls []) := by
            intro n4
            induction n4 with
            | zero =>
              intro k hz9 ρ H locs hP hD hS ls hl
              have hz9 : k = 8 := by omega
              subst hz9
              refine lv_iload hx hb dL_isMinute_616 (lv_at hl 7 rfl) ?_
              refine lv_bipush (v := nI 8) hx hb dL_isMinute_618 (by decide +kernel) ?_
              refine lv_icmp_ge (tgt := 760) hx hb dL_isMinute_620 (by decide) (fun _ => ?_) (fun c9 => absurd (nI_le (Nat.le_refl 8) (by decide)) c9)
              refine lv_iload hx hb dL_isMinute_760 (lv_at hl 6 rfl) ?_
              refine lv_if_eq (tgt := 776) hx hb dL_isMinute_762 (by decide) (fun c9 => absurd c9 (by decide +kernel)) (fun _ => ?_)
              refine lv_iload hx hb dL_isMinute_765 (lv_at hl 5 rfl) ?_
              refine lv_iload hx hb dL_isMinute_767 (lv_at hl 4 rfl) ?_
              refine lv_icmp_ne (tgt := 776) hx hb dL_isMinute_769 (by decide) (fun c9 => absurd rfl c9) (fun _ => ?_)
              refine lv_iconst (v := nI 1) hx hb dL_isMinute_772 (by decide +kernel) ?_
              refine lv_goto (tgt := 777) hx hb dL_isMinute_773 (by decide) ?_
              subst hQ9
              subst hA9
              exact kRetH_z ρ hx hb hr hlocks hP hS dL_isMinute_777 rfl (by first | rfl | decide +kernel)
            | succ n4 ih4 =>
              intro k hz9 ρ H locs hP hD hS ls hl
              have hzb : k < 8 := by omega
              have hkb : k < 8 := hzb
              have kk : ∀ (ρ : HS) (H : Heap) (locs : List Loc), va_P D vwCl (wQ cI cZ cO x a t b (qPass q 1) ρ ++ [(ap, .inl (cI, 6, .inl pf)), (ae, .inl (cI, 48, .inl ef)), (az, .inl (cI, 30, .inl (zM q zf 6)))]) H → va_D A (wQ cI cZ cO x a t b (qPass q 1) ρ ++ [(ap, .inl (cI, 6, .inl pf)), (ae, .inl (cI, 48, .inl ef)), (az, .inl (cI, 30, .inl (zM q zf 6)))]) → va_S A s.heap H locs → ∀ ls : Array Slot, lv_has ls 20 [(0, .ref (x 0)), (1, .ref ae), (2, .ref az), (3, .ref ap), (4, .int (mNot (qli q) (sT (qσ (qPass q 1))) 6)), (7, .int (mNot (qli q) (sT (qσ (qPass q 1))) 6)), (8, .int (nI 1)), (9, .int (nI (k + 1)))] → W p l e rmL_isMinute s m args below meth c H locs 0 0 Q (F0 m 616 ls []) := fun ρ H locs => ih4 (k + 1) (by omega) ρ H locs
              refine lv_iload hx hb dL_isMinute_616 (lv_at hl 7 rfl) ?_
              refine lv_bipush (v := nI 8) hx hb dL_isMinute_618 (by decide +kernel) ?_
              refine lv_icmp_ge (tgt := 760) hx hb dL_isMinute_620 (by decide) (fun c9 => absurd c9 (nI_ge hzb (by decide))) (fun _ => ?_)
              refine lv_iload hx hb dL_isMinute_623 (lv_at hl 6 rfl) ?_
              refine lv_if_eq (tgt := 760) hx hb dL_isMinute_625 (by decide) (fun c9 => absurd c9 (by decide +kernel)) (fun _ => ?_)
              refine lv_iconst (v := nI 0) hx hb dL_isMinute_628 (by decide +kernel) ?_
              refine lv_istore (lv' := [(10, .int (nI 0)), (0, .ref (x 0)), (1, .ref ae), (2, .ref az), (3, .ref ap), (4, .int (mNot (qli q) (sT (qσ (qPass q 1))) 6)), (7, .int (mNot (qli q) (sT (qσ (qPass q 1))) 6)), (8, .int (nI 1)), (9, .int (nI k))]) hx hb dL_isMinute_629 hl (by decide) rfl (fun ls hl => ?_)
              refine lv_iconst (v := nI 0) hx hb dL_isMinute_631 (by decide +kernel) ?_
              refine lv_istore (lv' := [(11, .int (nI 0)), (10, .int (nI 0)), (0, .ref (x 0)), (1, .ref ae), (2, .ref az), (3, .ref ap), (4, .int (mNot (qli q) (sT (qσ (qPass q 1))) 6)), (7, .int (mNot (qli q) (sT (qσ (qPass q 1))) 6)), (8, .int (nI 1)), (9, .int (nI k))]) hx hb dL_isMinute_632 hl (by decide) rfl (fun ls hl => ?_)
              exact im_634 h0 hQ hQ1 hck hp hE hZ hkb kk ρ H locs hP hD hS ls (lv_sub hl [0, 1, 2, 3, 4, 5, 6, 7, 8, 9] rfl)
          exact ls4 8 0 rfl ρ H locs hP hD hS ls (lv_sub hl [1, 2, 3, 4, 5, 6, 7, 0] rfl)
        | succ n2 ih2 =>
          intro z hz9 ρ H locs hP hD hS ls hl
          have hzb : z < 6 := by omega
          have hzz : z < 6 := hzb
          have kk : ∀ (ρ : HS) (H : Heap) (locs : List Loc), va_P D vwCl (wQ cI cZ cO x a t b (qPass q 1) ρ ++ [(ap, .inl (cI, 6, .inl pf)), (ae, .inl (cI, 48, .inl ef)), (az, .inl (cI, 30, .inl (zM q zf 6)))]) H → va_D A (wQ cI cZ cO x a t b (qPass q 1) ρ ++ [(ap, .inl (cI, 6, .inl pf)), (ae, .inl (cI, 48, .inl ef)), (az, .inl (cI, 30, .inl (zM q zf 6)))]) → va_S A s.heap H locs → ∀ ls : Array Slot, lv_has ls 20 [(0, .ref (x 0)), (1, .ref ae), (2, .ref az), (3, .ref ap), (4, .int (mNot (qli q) (sT (qσ (qPass q 1))) (z + 1))), (7, .int (mNot (qli q) (sT (qσ (qPass q 1))) 6)), (8, .int (nI 1)), (9, .int (nI (z + 1)))] → W p l e rmL_isMinute s m args below meth c H locs 0 0 Q (F0 m 114 ls []) := fun ρ H locs => ih2 (z + 1) (by omega) ρ H locs
          refine lv_iload hx hb dL_isMinute_114 (lv_at hl 7 rfl) ?_
          refine lv_bipush (v := nI 6) hx hb dL_isMinute_116 (by decide +kernel) ?_
          refine lv_icmp_ge (tgt := 613) hx hb dL_isMinute_118 (by decide) (fun c9 => absurd c9 (nI_ge hzb (by decide))) (fun _ => ?_)
          refine lv_iload hx hb dL_isMinute_121 (lv_at hl 6 rfl) ?_
          refine lv_if_eq (tgt := 613) hx hb dL_isMinute_123 (by decide) (fun c9 => absurd c9 (by decide +kernel)) (fun _ => ?_)
          refine lv_aload_n hx hb dL_isMinute_126 rfl (lv_at hl 2 rfl) ?_
          refine lv_bipush (v := nI 12) hx hb dL_isMinute_127 (by decide +kernel) ?_
          refine lv_iload hx hb dL_isMinute_129 (lv_at hl 7 rfl) ?_
          refine lv_iadd hx hb dL_isMinute_131 ?_
          refine k_as (nI_add _ _) ?_
          refine k_ialdT hx hb hK hP 2 0 rfl rfl (i := 12 + z) (by omega) (by decide) dL_isMinute_132 ?_
          refine k_as (y := sT (qσ q) z) (zM_T q zf 6 (Nat.le_refl 6) hzz) ?_
          refine lv_aload_n hx hb dL_isMinute_133 rfl (lv_at hl 2 rfl) ?_
          refine lv_bipush (v := nI 6) hx hb dL_isMinute_134 (by decide +kernel) ?_
          refine lv_iload hx hb dL_isMinute_136 (lv_at hl 7 rfl) ?_
          refine lv_iadd hx hb dL_isMinute_138 ?_
          refine k_as (nI_add _ _) ?_
          refine k_ialdT hx hb hK hP 2 0 rfl rfl (i := 6 + z) (by omega) (by decide) dL_isMinute_139 ?_
          refine k_as (y := qSe q z) (hZ.zM 6 z hzz).2 ?_
          refine lv_isub hx hb dL_isMinute_140 ?_
          refine lv_istore (lv' := [(10, .int ((sT (qσ q) z) - (qSe q z))), (0, .ref (x 0)), (1, .ref ae), (2, .ref az), (3, .ref ap), (4, .int (mNot (qli q) (sT (qσ (qPass q 1))) z)), (7, .int (mNot (qli q) (sT (qσ (qPass q 1))) 6)), (8, .int (nI 1)), (9, .int (nI z))]) hx hb dL_isMinute_141 hl (by decide) rfl (fun ls hl => ?_)
          refine lv_aload_n hx hb dL_isMinute_143 rfl (lv_at hl 3 rfl) ?_
          refine lv_bipush (v := nI 18) hx hb dL_isMinute_144 (by decide +kernel) ?_
          refine lv_iload hx hb dL_isMinute_146 (lv_at hl 8 rfl) ?_
          refine lv_iadd hx hb dL_isMinute_148 ?_
          refine k_as (nI_add _ _) ?_
          refine k_ialdT hx hb hK hP 2 0 rfl rfl (i := 18 + z) (by omega) (by decide) dL_isMinute_149 ?_
          refine k_as (y := sE (qσ q) z) (zM_E q zf 6 (Nat.le_refl 6) hzz) ?_
          refine lv_iload hx hb dL_isMinute_150 (lv_at hl 0 rfl) ?_
          refine lv_iadd hx hb dL_isMinute_152 ?_
          refine lv_istore (lv' := [(11, .int ((sE (qσ q) z) + ((sT (qσ q) z) - (qSe q z)))), (10, .int ((sT (qσ q) z) - (qSe q z))), (0, .ref (x 0)), (1, .ref ae), (2, .ref az), (3, .ref ap), (4, .int (mNot (qli q) (sT (qσ (qPass q 1))) z)), (7, .int (mNot (qli q) (sT (qσ (qPass q 1))) 6)), (8, .int (nI 1)), (9, .int (nI z))]) hx hb dL_isMinute_153 hl (by decide) rfl (fun ls hl => ?_)
          refine lv_iconst (v := nI 0) hx hb dL_isMinute_155 (by decide +kernel) ?_
          refine lv_istore (lv' := [(12, .int (nI 0)), (11, .int ((sE (qσ q) z) + ((sT (qσ q) z) - (qSe q z)))), (10, .int ((sT (qσ q) z) - (qSe q z))), (0, .ref (x 0)), (1, .ref ae), (2, .ref az), (3, .ref ap), (4, .int (mNot (qli q) (sT (qσ (qPass q 1))) z)), (7, .int (mNot (qli q) (sT (qσ (qPass q 1))) 6)), (8, .int (nI 1)), (9, .int (nI z))]) hx hb dL_isMinute_156 hl (by decide) rfl (fun ls hl => ?_)
          refine lv_iconst (v := nI 0) hx hb dL_isMinute_158 (by decide +kernel) ?_
          refine lv_istore (lv' := [(13, .int (nI 0)), (12, .int (nI 0)), (11, .int ((sE (qσ q) z) + ((sT (qσ q) z) - (qSe q z)))), (10, .int ((sT (qσ q) z) - (qSe q z))), (0, .ref (x 0)), (1, .ref ae), (2, .ref az), (3, .ref ap), (4, .int (mNot (qli q) (sT (qσ (qPass q 1))) z)), (7, .int (mNot (qli q) (sT (qσ (qPass q 1))) 6)), (8, .int (nI 1)), (9, .int (nI z))]) hx hb dL_isMinute_159 hl (by decide) rfl (fun ls hl => ?_)
          refine lv_iconst (v := nI 0) hx hb dL_isMinute_161 (by decide +kernel) ?_
          refine lv_istore (lv' := [(14, .int (nI 0)), (13, .int (nI 0)), (12, .int (nI 0)), (11, .int ((sE (qσ q) z) + ((sT (qσ q) z) - (qSe q z)))), (10, .int ((sT (qσ q) z) - (qSe q z))), (0, .ref (x 0)), (1, .ref ae), (2, .ref az), (3, .ref ap), (4, .int (mNot (qli q) (sT (qσ (qPass q 1))) z)), (7, .int (mNot (qli q) (sT (qσ (qPass q 1))) 6)), (8, .int (nI 1)), (9, .int (nI z))]) hx hb dL_isMinute_162 hl (by decide) rfl (fun ls hl => ?_)
          refine lv_iconst (v := nI 0) hx hb dL_isMinute_164 (by decide +kernel) ?_
          refine lv_istore (lv' := [(15, .int (nI 0)), (14, .int (nI 0)), (13, .int (nI 0)), (12, .int (nI 0)), (11, .int ((sE (qσ q) z) + ((sT (qσ q) z) - (qSe q z)))), (10, .int ((sT (qσ q) z) - (qSe q z))), (0, .ref (x 0)), (1, .ref ae), (2, .ref az), (3, .ref ap), (4, .int (mNot (qli q) (sT (qσ (qPass q 1))) z)), (7, .int (mNot (qli q) (sT (qσ (qPass q 1))) 6)), (8, .int (nI 1)), (9, .int (nI z))]) hx hb dL_isMinute_165 hl (by decide) rfl (fun ls hl => ?_)
          exact im_167 h0 hQ hQ1 hck hp hE hZ hzz kk ρ H locs hP hD hS ls (lv_sub hl [0, 1, 2, 3, 4, 5, 6, 7, 8, 9, 10, 11, 12, 13] rfl)
      exact lq 6 0 rfl ρ H locs hP hD hS ls (lv_sub hl [3, 4, 5, 6, 7, 2, 1, 0] rfl)
    | succ n ih =>
      intro z hz9 ρ H locs hP hD hS ls hl
      have hzb : z < 6 := by omega
      refine lv_iload hx hb dL_isMinute_20 (lv_at hl 7 rfl) ?_
      refine lv_bipush (v := nI 6) hx hb dL_isMinute_22 (by decide +kernel) ?_
      refine lv_icmp_ge (tgt := 72) hx hb dL_isMinute_24 (by decide) (fun c9 => absurd c9 (nI_ge hzb (by decide))) (fun _ => ?_)
      refine lv_aload_n hx hb dL_isMinute_27 rfl (lv_at hl 2 rfl) ?_
      refine lv_bipush (v := nI 12) hx hb dL_isMinute_28 (by decide +kernel) ?_
      refine lv_iload hx hb dL_isMinute_30 (lv_at hl 7 rfl) ?_
      refine lv_iadd hx hb dL_isMinute_32 ?_
      refine k_as (nI_add _ _) ?_
      refine lv_aload_n hx hb dL_isMinute_33 rfl (lv_at hl 0 rfl) ?_
      refine lv_iload hx hb dL_isMinute_34 (lv_at hl 7 rfl) ?_
      refine kCallP_i (mc := 0) (ms := 0) (W1 := fun _ : Unit => wQ cI cZ cO x a t b q ρ) (fun _ _ h => h) hP hD hS hA (fun _ => rfl) (va_runV (As := [.int (nI z)]) (rest := [.int (nI (12 + z)), .ref az]) ⟨hx, hb, hml, hown, hts⟩ (c_X2_temperature l D cI cZ cO cJ x a t b (qK q) (qHo q) (sT (qσ q)) (sE (qσ q)) (sD (qσ q)) (sF (qσ q)) (sS (qσ q)) (sC (qσ q)) (sL (qσ q)) (sT ρ) (sE ρ) (sD ρ) (sF ρ) (sS ρ) (sC ρ) (sL ρ) (qLo q) (qSe q) (qEf q) (qgp q) (qgi q) (qam q) (qli q) (qdl q) z H.size (by omega)) (cwV (rm := rmX2_temperature) 1 hts gL_isMinute_X2_temperature rfl rfl rfl (by decide +kernel) ⟨Nat.le_of_ble_eq_true rfl, Nat.le_of_ble_eq_true rfl⟩) (kPreVW hK hN (pfP hP) (pfD hD) (va_recv hK (pfP hP) (ci := 2) (q0 := 0) rfl rfl)) rfl rfl hl.1 rfl (lv_room (Nat.le_of_ble_eq_true rfl)) dL_isMinute_36 ⟨Nat.zero_le _, Nat.zero_le _⟩) (fun r9 u9 H locs hr9 hP hD hS => ?_)
      have hr9 : r9 = sT (qσ q) z := hr9
      subst hr9
      refine k_iastT hx hb hK hP hD hS 2 0 rfl rfl (i := 12 + z) (x := sT (qσ q) z) (by omega) (by decide) dL_isMinute_39 (fun H locs hP hD hS => ?_)
      have hP : va_P D vwCl (wQ cI cZ cO x a t b q ρ ++ [(ap, .inl (cI, 6, .inl pf)), (ae, .inl (cI, 48, .inl ef)), (az, .inl (cI, 30, .inl (upd (zM q zf z) (12 + z) (sT (qσ q) z))))]) H := hP
      have hD : va_D A (wQ cI cZ cO x a t b q ρ ++ [(ap, .inl (cI, 6, .inl pf)), (ae, .inl (cI, 48, .inl ef)), (az, .inl (cI, 30, .inl (upd (zM q zf z) (12 + z) (sT (qσ q) z))))]) := hD
      refine lv_aload_n hx hb dL_isMinute_40 rfl (lv_at hl 2 rfl) ?_
      refine lv_bipush (v := nI 18) hx hb dL_isMinute_41 (by decide +kernel) ?_
      refine lv_iload hx hb dL_isMinute_43 (lv_at hl 7 rfl) ?_
      refine lv_iadd hx hb dL_isMinute_45 ?_
      refine k_as (nI_add _ _) ?_
      refine lv_aload_n hx hb dL_isMinute_46 rfl (lv_at hl 0 rfl) ?_
      refine lv_iload hx hb dL_isMinute_47 (lv_at hl 7 rfl) ?_
      refine kCallP_i (mc := 0) (ms := 0) (W1 := fun _ : Unit => wQ cI cZ cO x a t b q ρ) (fun _ _ h => h) hP hD hS hA (fun _ => rfl) (va_runV (As := [.int (nI z)]) (rest := [.int (nI (18 + z)), .ref az]) ⟨hx, hb, hml, hown, hts⟩ (c_X2_errors l D cI cZ cO cJ x a t b (qK q) (qHo q) (sT (qσ q)) (sE (qσ q)) (sD (qσ q)) (sF (qσ q)) (sS (qσ q)) (sC (qσ q)) (sL (qσ q)) (sT ρ) (sE ρ) (sD ρ) (sF ρ) (sS ρ) (sC ρ) (sL ρ) (qLo q) (qSe q) (qEf q) (qgp q) (qgi q) (qam q) (qli q) (qdl q) z H.size (by omega)) (cwV (rm := rmX2_errors) 1 hts gL_isMinute_X2_errors rfl rfl rfl (by decide +kernel) ⟨Nat.le_of_ble_eq_true rfl, Nat.le_of_ble_eq_true rfl⟩) (kPreVW hK hN (pfP hP) (pfD hD) (va_recv hK (pfP hP) (ci := 2) (q0 := 0) rfl rfl)) rfl rfl hl.1 rfl (lv_room (Nat.le_of_ble_eq_true rfl)) dL_isMinute_49 ⟨Nat.zero_le _, Nat.zero_le _⟩) (fun r9 u9 H locs hr9 hP hD hS => ?_)
      have hr9 : r9 = sE (qσ q) z := hr9
      subst hr9
      refine k_iastT hx hb hK hP hD hS 2 0 rfl rfl (i := 18 + z) (x := sE (qσ q) z) (by omega) (by decide) dL_isMinute_52 (fun H locs hP hD hS => ?_)
      have hP : va_P D vwCl (wQ cI cZ cO x a t b q ρ ++ [(ap, .inl (cI, 6, .inl pf)), (ae, .inl (cI, 48, .inl ef)), (az, .inl (cI, 30, .inl (upd (upd (zM q zf z) (12 + z) (sT (qσ q) z)) (18 + z) (sE (qσ q) z))))]) H := hP
      have hD : va_D A (wQ cI cZ cO x a t b q ρ ++ [(ap, .inl (cI, 6, .inl pf)), (ae, .inl (cI, 48, .inl ef)), (az, .inl (cI, 30, .inl (upd (upd (zM q zf z) (12 + z) (sT (qσ q) z)) (18 + z) (sE (qσ q) z))))]) := hD
      refine lv_aload_n hx hb dL_isMinute_53 rfl (lv_at hl 2 rfl) ?_
      refine lv_bipush (v := nI 24) hx hb dL_isMinute_54 (by decide +kernel) ?_
      refine lv_iload hx hb dL_isMinute_56 (lv_at hl 7 rfl) ?_
      refine lv_iadd hx hb dL_isMinute_58 ?_
      refine k_as (nI_add _ _) ?_
      refine lv_aload_n hx hb dL_isMinute_59 rfl (lv_at hl 0 rfl) ?_
      refine lv_iload hx hb dL_isMinute_60 (lv_at hl 7 rfl) ?_
      refine kCallP_i (mc := 0) (ms := 0) (W1 := fun _ : Unit => wQ cI cZ cO x a t b q ρ) (fun _ _ h => h) hP hD hS hA (fun _ => rfl) (va_runV (As := [.int (nI z)]) (rest := [.int (nI (24 + z)), .ref az]) ⟨hx, hb, hml, hown, hts⟩ (c_X2_hotMinutes l D cI cZ cO cJ x a t b (qK q) (qHo q) (sT (qσ q)) (sE (qσ q)) (sD (qσ q)) (sF (qσ q)) (sS (qσ q)) (sC (qσ q)) (sL (qσ q)) (sT ρ) (sE ρ) (sD ρ) (sF ρ) (sS ρ) (sC ρ) (sL ρ) (qLo q) (qSe q) (qEf q) (qgp q) (qgi q) (qam q) (qli q) (qdl q) z H.size (by omega)) (cwV (rm := rmX2_hotMinutes) 1 hts gL_isMinute_X2_hotMinutes rfl rfl rfl (by decide +kernel) ⟨Nat.le_of_ble_eq_true rfl, Nat.le_of_ble_eq_true rfl⟩) (kPreVW hK hN (pfP hP) (pfD hD) (va_recv hK (pfP hP) (ci := 2) (q0 := 0) rfl rfl)) rfl rfl hl.1 rfl (lv_room (Nat.le_of_ble_eq_true rfl)) dL_isMinute_62 ⟨Nat.zero_le _, Nat.zero_le _⟩) (fun r9 u9 H locs hr9 hP hD hS => ?_)
      have hr9 : r9 = qHo q z := hr9
      subst hr9
      refine k_iastT hx hb hK hP hD hS 2 0 rfl rfl (i := 24 + z) (x := qHo q z) (by omega) (by decide) dL_isMinute_65 (fun H locs hP hD hS => ?_)
      have hP : va_P D vwCl (wQ cI cZ cO x a t b q ρ ++ [(ap, .inl (cI, 6, .inl pf)), (ae, .inl (cI, 48, .inl ef)), (az, .inl (cI, 30, .inl (upd (upd (upd (zM q zf z) (12 + z) (sT (qσ q) z)) (18 + z) (sE (qσ q) z)) (24 + z) (qHo q z))))]) H := hP
      have hD : va_D A (wQ cI cZ cO x a t b q ρ ++ [(ap, .inl (cI, 6, .inl pf)), (ae, .inl (cI, 48, .inl ef)), (az, .inl (cI, 30, .inl (upd (upd (upd (zM q zf z) (12 + z) (sT (qσ q) z)) (18 + z) (sE (qσ q) z)) (24 + z) (qHo q z))))]) := hD
      refine lv_iinc (v := nI (z + 1)) (lv' := [(7, .int (nI (z + 1))), (0, .ref (x 0)), (1, .ref ae), (2, .ref az), (3, .ref ap), (4, .int (nI 0)), (5, .int (nI (qK q))), (6, .int (qE q 2 0))]) hx hb dL_isMinute_66 hl (k := 7) rfl (k_inc _) (by decide) rfl (fun ls hl => ?_)
      refine lv_goto (tgt := 20) hx hb dL_isMinute_69 (by decide) ?_
      exact ih (z + 1) (by omega) ρ H locs hP hD hS ls (lv_sub hl [1, 2, 3, 4, 5, 6, 7, 0] rfl)
  exact lp 6 0 rfl ρ H locs hP hD hS ls (lv_sub hl [4, 5, 6, 7, 3, 2, 1, 0] rfl)

