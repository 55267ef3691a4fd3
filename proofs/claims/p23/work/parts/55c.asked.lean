abbrev rmL_isAsked : Room := { frames := 7, cells := 0, slots := 0, locals := 166 }
set_option maxHeartbeats 4000000 in
set_option maxRecDepth 100000 in
theorem c_L_isAsked (l : Launch) (D : va_G) (cI cZ cO cJ : ClassId) (x a t b : Nat → Nat) (q : QS) (ρ : HS) (ap : Nat) (pf : Nat → Int32) (B : Nat) (z m9 : Nat) (sz : Nat) (hQ : QOK q) (hp : PR pf q B) (hz : z < 6) (hm : m9 < 60) : kMH l yL_isAsked wsL_isAsked rmL_isAsked D (kT cI cZ cO cJ) [.ref (x 0), .int (nI z), .int (nI (m9 + 1)), .ref ap] (wQ cI cZ cO x a t b q ρ ++ [(ap, .inl (cI, 6, .inl pf))]) (fun u : HS => wQ cI cZ cO x a t b q u ++ [(ap, .inl (cI, 6, .inl pf))]) 0 0 sz (nI 1) := by
  refine kEnterQ (cc := cL_isAsked) (maxL := 13) (ret := some .boolean) (by decide +kernel) rfl (Nat.le_of_ble_eq_true rfl) ?_
  intro p e s m below meth c args hx hb hr hml hts hown hlocks hK hN A hA9 Q hQ9 hP hD hsz hS hA hX hC ls hl
  have hl : lv_has ls 13 [(0, .ref (x 0)), (1, .int (nI z)), (2, .int (nI (m9 + 1))), (3, .ref ap)] := hl
  obtain ⟨H, hH9⟩ : ∃ H, H = s.heap := ⟨_, rfl⟩
  rw [← hH9] at hP ⊢
  have hS : va_S A s.heap H [] := by rw [hH9]; exact va_S.rf
  have hlocs : ∃ locs : List Loc, locs = [] := ⟨_, rfl⟩
  obtain ⟨locs, hlocs⟩ := hlocs
  rw [← hlocs] at hS ⊢
  refine lv_aload_n hx hb dL_isAsked_0 rfl (lv_at hl 0 rfl) ?_
  refine kCallP_l (mc := 0) (ms := 0) (T := [(ap, .inl (cI, 6, .inl pf))]) (W1 := fun ρ : HS => wQ cI cZ cO x a t b q ρ) (fun _ _ h => h) hP hD hS hA (fun _ => rfl) (va_runS (As := [.ref (x 0)]) (rest := []) ⟨hx, hb, hml, hown, hts⟩ (c_L_all l D cI cZ cO cJ x a t b q ρ H.size hQ) (va_cwS (rm := rmL_all) 1 hts gL_isAsked_L_all rfl rfl rfl (by decide +kernel) ⟨Nat.le_of_ble_eq_true rfl, Nat.le_of_ble_eq_true rfl⟩) (kPreSHW hK hN hX hC (pfP hP) (pfD hD) hS (kfree (pfD hD) hS hA)) rfl rfl hl.1 rfl (lv_room (Nat.le_of_ble_eq_true rfl)) dL_isAsked_1 ⟨Nat.zero_le _, Nat.zero_le _⟩) (fun r9 ρ H locs hr9 hP hD hS => ?_)
  have hr9 : r9 = aF q 8 := hr9
  subst hr9
  refine lv_lstore (lv' := [(4, .long (aF q 8)), (0, .ref (x 0)), (1, .int (nI z)), (2, .int (nI (m9 + 1))), (3, .ref ap)]) hx hb dL_isAsked_4 hl (by decide) rfl (fun ls hl => ?_)
  refine lv_aload_n hx hb dL_isAsked_6 rfl (lv_at hl 1 rfl) ?_
  refine lv_iload_n hx hb dL_isAsked_7 rfl (lv_at hl 2 rfl) ?_
  refine lv_iload_n hx hb dL_isAsked_8 rfl (lv_at hl 3 rfl) ?_
  refine kCallP_i (mc := 0) (ms := 0) (W1 := fun ρ : HS => wQ cI cZ cO x a t b q ρ) (fun _ _ h => h) hP hD hS hA (fun _ => rfl) (va_runV (As := [.int (nI z), .int (nI (m9 + 1))]) (rest := []) ⟨hx, hb, hml, hown, hts⟩ (c_X2_expected l D cI cZ cO cJ x a t b (qK q) (qHo q) (qσ q) (sT ρ) (sE ρ) (sD ρ) (sF ρ) (sS ρ) (sC ρ) (sL ρ) (qLo q) (qSe q) (qEf q) (qgp q) (qgi q) (qam q) (qli q) (qdl q) z m9 H.size (by omega) (by omega) hQ.la hQ.dl hQ.F) (cwV (rm := rmX2_expected) 2 hts gL_isAsked_X2_expected rfl rfl rfl (by decide +kernel) ⟨Nat.le_of_ble_eq_true rfl, Nat.le_of_ble_eq_true rfl⟩) (kPreVW hK hN (pfP hP) (pfD hD) (va_recv hK (pfP hP) (ci := 2) (q0 := 0) rfl rfl)) rfl rfl hl.1 rfl (lv_room (Nat.le_of_ble_eq_true rfl)) dL_isAsked_9 ⟨Nat.zero_le _, Nat.zero_le _⟩) (fun r9 ρ H locs hr9 hP hD hS => ?_)
  have hr9 : r9 = qE q z m9 := hr9
  subst hr9
  refine lv_istore (lv' := [(6, .int (qE q z m9)), (4, .long (aF q 8)), (0, .ref (x 0)), (1, .int (nI z)), (2, .int (nI (m9 + 1))), (3, .ref ap)]) hx hb dL_isAsked_12 hl (by decide) rfl (fun ls hl => ?_)
  refine lv_aload_n hx hb dL_isAsked_14 rfl (lv_at hl 2 rfl) ?_
  refine lv_iload_n hx hb dL_isAsked_15 rfl (lv_at hl 3 rfl) ?_
  refine lv_iload_n hx hb dL_isAsked_16 rfl (lv_at hl 4 rfl) ?_
  refine kCallP_i (mc := 0) (ms := 0) (W1 := fun ρ : HS => wQ cI cZ cO x a t b q ρ) (fun _ _ h => h) hP hD hS hA (fun _ => rfl) (va_runV (As := [.int (nI z), .int (nI (m9 + 1))]) (rest := []) ⟨hx, hb, hml, hown, hts⟩ (c_X2_critical l D cI cZ cO cJ x a t b (qK q) (qHo q) (qσ q) (sT ρ) (sE ρ) (sD ρ) (sF ρ) (sS ρ) (sC ρ) (sL ρ) (qLo q) (qSe q) (qEf q) (qgp q) (qgi q) (qam q) (qli q) (qdl q) z m9 H.size (by omega) (by omega) hQ.la hQ.dl hQ.F) (cwV (rm := rmX2_critical) 2 hts gL_isAsked_X2_critical rfl rfl rfl (by decide +kernel) ⟨Nat.le_of_ble_eq_true rfl, Nat.le_of_ble_eq_true rfl⟩) (kPreVW hK hN (pfP hP) (pfD hD) (va_recv hK (pfP hP) (ci := 2) (q0 := 0) rfl rfl)) rfl rfl hl.1 rfl (lv_room (Nat.le_of_ble_eq_true rfl)) dL_isAsked_17 ⟨Nat.zero_le _, Nat.zero_le _⟩) (fun r9 ρ H locs hr9 hP hD hS => ?_)
  have hr9 : r9 = qCr q z m9 := hr9
  subst hr9
  refine lv_istore (lv' := [(7, .int (qCr q z m9)), (6, .int (qE q z m9)), (4, .long (aF q 8)), (0, .ref (x 0)), (1, .int (nI z)), (2, .int (nI (m9 + 1))), (3, .ref ap)]) hx hb dL_isAsked_20 hl (by decide) rfl (fun ls hl => ?_)
  refine lv_aload_n hx hb dL_isAsked_22 rfl (lv_at hl 3 rfl) ?_
  refine lv_iload_n hx hb dL_isAsked_23 rfl (lv_at hl 4 rfl) ?_
  refine lv_iload_n hx hb dL_isAsked_24 rfl (lv_at hl 5 rfl) ?_
  refine kCallP_i (mc := 0) (ms := 0) (W1 := fun ρ : HS => wQ cI cZ cO x a t b q ρ) (fun _ _ h => h) hP hD hS hA (fun _ => rfl) (va_runV (As := [.int (nI z), .int (nI (m9 + 1))]) (rest := []) ⟨hx, hb, hml, hown, hts⟩ (c_X2_margin l D cI cZ cO cJ x a t b (qK q) (qHo q) (qσ q) (sT ρ) (sE ρ) (sD ρ) (sF ρ) (sS ρ) (sC ρ) (sL ρ) (qLo q) (qSe q) (qEf q) (qgp q) (qgi q) (qam q) (qli q) (qdl q) z m9 H.size (by omega) (by omega) hQ.la hQ.dl hQ.F) (cwV (rm := rmX2_margin) 2 hts gL_isAsked_X2_margin rfl rfl rfl (by decide +kernel) ⟨Nat.le_of_ble_eq_true rfl, Nat.le_of_ble_eq_true rfl⟩) (kPreVW hK hN (pfP hP) (pfD hD) (va_recv hK (pfP hP) (ci := 2) (q0 := 0) rfl rfl)) rfl rfl hl.1 rfl (lv_room (Nat.le_of_ble_eq_true rfl)) dL_isAsked_25 ⟨Nat.zero_le _, Nat.zero_le _⟩) (fun r9 ρ H locs hr9 hP hD hS => ?_)
  have hr9 : r9 = qM q z m9 := hr9
  subst hr9
  refine lv_istore (lv' := [(8, .int (qM q z m9)), (7, .int (qCr q z m9)), (6, .int (qE q z m9)), (4, .long (aF q 8)), (0, .ref (x 0)), (1, .int (nI z)), (2, .int (nI (m9 + 1))), (3, .ref ap)]) hx hb dL_isAsked_28 hl (by decide) rfl (fun ls hl => ?_)
  refine lv_aload_n hx hb dL_isAsked_30 rfl (lv_at hl 4 rfl) ?_
  refine kCallP_l (mc := 0) (ms := 0) (T := [(ap, .inl (cI, 6, .inl pf))]) (W1 := fun ρ : HS => wQ cI cZ cO x a t b q ρ) (fun _ _ h => h) hP hD hS hA (fun _ => rfl) (va_runS (As := [.ref (x 0)]) (rest := []) ⟨hx, hb, hml, hown, hts⟩ (c_L_all l D cI cZ cO cJ x a t b q ρ H.size hQ) (va_cwS (rm := rmL_all) 1 hts gL_isAsked_L_all rfl rfl rfl (by decide +kernel) ⟨Nat.le_of_ble_eq_true rfl, Nat.le_of_ble_eq_true rfl⟩) (kPreSHW hK hN hX hC (pfP hP) (pfD hD) hS (kfree (pfD hD) hS hA)) rfl rfl hl.1 rfl (lv_room (Nat.le_of_ble_eq_true rfl)) dL_isAsked_31 ⟨Nat.zero_le _, Nat.zero_le _⟩) (fun r9 ρ H locs hr9 hP hD hS => ?_)
  have hr9 : r9 = aF q 8 := hr9
  subst hr9
  refine lv_lload hx hb dL_isAsked_34 (lv_at hl 3 rfl) ?_
  refine k_lcmp0 rfl hx hb dL_isAsked_36 ?_
  refine lv_if_ne (tgt := 100) hx hb dL_isAsked_37 (by decide) (fun c9 => absurd (by decide +kernel) c9) (fun _ => ?_)
  refine lv_iload hx hb dL_isAsked_40 (lv_at hl 1 rfl) ?_
  refine lv_iconst (v := (-1)) hx hb dL_isAsked_42 (by decide +kernel) ?_
  have j96 : ∀ (ρ : HS) (H : Heap) (locs : List Loc), va_P D vwCl (wQ cI cZ cO x a t b q ρ ++ [(ap, .inl (cI, 6, .inl pf))]) H → va_D A (wQ cI cZ cO x a t b q ρ ++ [(ap, .inl (cI, 6, .inl pf))]) → va_S A s.heap H locs → ∀ ls : Array Slot, lv_has ls 13 [(0, .ref (x 0)), (1, .int (nI z)), (2, .int (nI (m9 + 1))), (3, .ref ap), (6, .int (qE q z m9))] → W p l e rmL_isAsked s m args below meth c H locs 0 0 Q (F0 m 96 ls []) := by
    intro ρ H locs hP hD hS ls hl
    refine lv_iconst (v := nI 1) hx hb dL_isAsked_96 (by decide +kernel) ?_
    refine lv_goto (tgt := 101) hx hb dL_isAsked_97 (by decide) ?_
    refine lv_istore (lv' := [(9, .int (nI 1)), (0, .ref (x 0)), (1, .int (nI z)), (2, .int (nI (m9 + 1))), (3, .ref ap), (6, .int (qE q z m9))]) hx hb dL_isAsked_101 hl (by decide) rfl (fun ls hl => ?_)
    refine lv_aload_n hx hb dL_isAsked_103 rfl (lv_at hl 1 rfl) ?_
    refine lv_iload_n hx hb dL_isAsked_104 rfl (lv_at hl 2 rfl) ?_
    refine lv_iconst (v := nI 1) hx hb dL_isAsked_105 (by decide +kernel) ?_
    refine kCallP_i (mc := 0) (ms := 0) (W1 := fun ρ : HS => wQ cI cZ cO x a t b q ρ) (fun _ _ h => h) hP hD hS hA (fun _ => rfl) (va_runV (As := [.int (nI z), .int (nI 1)]) (rest := []) ⟨hx, hb, hml, hown, hts⟩ (c_X2_expected l D cI cZ cO cJ x a t b (qK q) (qHo q) (qσ q) (sT ρ) (sE ρ) (sD ρ) (sF ρ) (sS ρ) (sC ρ) (sL ρ) (qLo q) (qSe q) (qEf q) (qgp q) (qgi q) (qam q) (qli q) (qdl q) z 0 H.size (by omega) (by decide) hQ.la hQ.dl hQ.F) (cwV (rm := rmX2_expected) 2 hts gL_isAsked_X2_expected rfl rfl rfl (by decide +kernel) ⟨Nat.le_of_ble_eq_true rfl, Nat.le_of_ble_eq_true rfl⟩) (kPreVW hK hN (pfP hP) (pfD hD) (va_recv hK (pfP hP) (ci := 2) (q0 := 0) rfl rfl)) rfl rfl hl.1 rfl (lv_room (Nat.le_of_ble_eq_true rfl)) dL_isAsked_106 ⟨Nat.zero_le _, Nat.zero_le _⟩) (fun r9 ρ H locs hr9 hP hD hS => ?_)
    have hr9 : r9 = qE q z 0 := hr9
    subst hr9
    refine lv_istore (lv' := [(10, .int (qE q z 0)), (9, .int (nI 1)), (0, .ref (x 0)), (1, .int (nI z)), (2, .int (nI (m9 + 1))), (3, .ref ap), (6, .int (qE q z m9))]) hx hb dL_isAsked_109 hl (by decide) rfl (fun ls hl => ?_)
    refine lv_iconst (v := nI 2) hx hb dL_isAsked_111 (by decide +kernel) ?_
    refine lv_istore (lv' := [(11, .int (nI 2)), (10, .int (qE q z 0)), (9, .int (nI 1)), (0, .ref (x 0)), (1, .int (nI z)), (2, .int (nI (m9 + 1))), (3, .ref ap), (6, .int (qE q z m9))]) hx hb dL_isAsked_112 hl (by decide) rfl (fun ls hl => ?_)
    have lp : ∀ (n k : Nat), k + n = m9 → ∀ ρ : HS, ∀ (H : Heap) (locs : List Loc), va_P D vwCl (wQ cI cZ cO x a t b q ρ ++ [(ap, .inl (cI, 6, .inl pf))]) H → va_D A (wQ cI cZ cO x a t b q ρ ++ [(ap, .inl (cI, 6, .inl pf))]) → va_S A s.heap H locs → ∀ ls : Array Slot, lv_has ls 13 [(0, .ref (x 0)), (1, .int (nI z)), (2, .int (nI (m9 + 1))), (6, .int (qE q z m9)), (9, .int (nI 1)), (10, .int (qE q z k)), (11, .int (nI (k + 2)))] → W p l e rmL_isAsked s m args below meth c H locs 0 0 Q (F0 m 114 ls []) := by
      intro n
      induction n with
      | zero =>
        intro k hz9 ρ H locs hP hD hS ls hl
        have hz9 : m9 = k := by omega
        subst hz9
        refine lv_iload hx hb dL_isAsked_114 (lv_at hl 6 rfl) ?_
        refine lv_iload_n hx hb dL_isAsked_116 rfl (lv_at hl 2 rfl) ?_
        refine lv_icmp_gt (tgt := 165) hx hb dL_isAsked_117 (by decide) (fun _ => ?_) (fun c9 => absurd (nI_lt (by omega) (by omega)) c9)
        refine lv_iload hx hb dL_isAsked_165 (lv_at hl 4 rfl) ?_
        refine lv_if_eq (tgt := 181) hx hb dL_isAsked_167 (by decide) (fun c9 => absurd c9 (by decide +kernel)) (fun _ => ?_)
        refine lv_iload hx hb dL_isAsked_170 (lv_at hl 5 rfl) ?_
        refine lv_iload hx hb dL_isAsked_172 (lv_at hl 3 rfl) ?_
        refine lv_icmp_ne (tgt := 181) hx hb dL_isAsked_174 (by decide) (fun c9 => absurd rfl c9) (fun _ => ?_)
        refine lv_iconst (v := nI 1) hx hb dL_isAsked_177 (by decide +kernel) ?_
        refine lv_goto (tgt := 182) hx hb dL_isAsked_178 (by decide) ?_
        subst hQ9
        subst hA9
        exact kRetH_z ρ hx hb hr hlocks hP hS dL_isAsked_182 rfl (by first | rfl | decide +kernel)
      | succ n ih =>
        intro k hz9 ρ H locs hP hD hS ls hl
        have hzb : k < m9 := by omega
        refine lv_iload hx hb dL_isAsked_114 (lv_at hl 6 rfl) ?_
        refine lv_iload_n hx hb dL_isAsked_116 rfl (lv_at hl 2 rfl) ?_
        refine lv_icmp_gt (tgt := 165) hx hb dL_isAsked_117 (by decide) (fun c9 => absurd c9 (nI_nlt (by omega) (by omega))) (fun _ => ?_)
        refine lv_iload hx hb dL_isAsked_120 (lv_at hl 4 rfl) ?_
        refine lv_if_eq (tgt := 165) hx hb dL_isAsked_122 (by decide) (fun c9 => absurd c9 (by decide +kernel)) (fun _ => ?_)
        refine lv_aload_n hx hb dL_isAsked_125 rfl (lv_at hl 0 rfl) ?_
        refine lv_iload_n hx hb dL_isAsked_126 rfl (lv_at hl 1 rfl) ?_
        refine lv_iload hx hb dL_isAsked_127 (lv_at hl 6 rfl) ?_
        refine kCallP_i (mc := 0) (ms := 0) (W1 := fun ρ : HS => wQ cI cZ cO x a t b q ρ) (fun _ _ h => h) hP hD hS hA (fun _ => rfl) (va_runV (As := [.int (nI z), .int (nI (k + 2))]) (rest := []) ⟨hx, hb, hml, hown, hts⟩ (c_X2_expected l D cI cZ cO cJ x a t b (qK q) (qHo q) (qσ q) (sT ρ) (sE ρ) (sD ρ) (sF ρ) (sS ρ) (sC ρ) (sL ρ) (qLo q) (qSe q) (qEf q) (qgp q) (qgi q) (qam q) (qli q) (qdl q) z (k + 1) H.size (by omega) (by omega) hQ.la hQ.dl hQ.F) (cwV (rm := rmX2_expected) 2 hts gL_isAsked_X2_expected rfl rfl rfl (by decide +kernel) ⟨Nat.le_of_ble_eq_true rfl, Nat.le_of_ble_eq_true rfl⟩) (kPreVW hK hN (pfP hP) (pfD hD) (va_recv hK (pfP hP) (ci := 2) (q0 := 0) rfl rfl)) rfl rfl hl.1 rfl (lv_room (Nat.le_of_ble_eq_true rfl)) dL_isAsked_129 ⟨Nat.zero_le _, Nat.zero_le _⟩) (fun r9 ρ H locs hr9 hP hD hS => ?_)
        have hr9 : r9 = qE q z (k + 1) := hr9
        subst hr9
        refine lv_istore (lv' := [(12, .int (qE q z (k + 1))), (0, .ref (x 0)), (1, .int (nI z)), (2, .int (nI (m9 + 1))), (6, .int (qE q z m9)), (9, .int (nI 1)), (10, .int (qE q z k)), (11, .int (nI (k + 2)))]) hx hb dL_isAsked_132 hl (by decide) rfl (fun ls hl => ?_)
        refine lv_iload hx hb dL_isAsked_134 (lv_at hl 0 rfl) ?_
        refine lv_iload hx hb dL_isAsked_136 (lv_at hl 6 rfl) ?_
        refine lv_icmp_lt (tgt := 152) hx hb dL_isAsked_138 (by decide) (fun c9 => absurd c9 (Int32.not_lt.mpr (qE_up q z k))) (fun _ => ?_)
        refine lv_iload hx hb dL_isAsked_141 (lv_at hl 0 rfl) ?_
        refine lv_iload hx hb dL_isAsked_143 (lv_at hl 4 rfl) ?_
        refine lv_icmp_gt (tgt := 152) hx hb dL_isAsked_145 (by decide) (fun c9 => absurd c9 (Int32.not_lt.mpr (by have h := qE_le q z (k + 1) (m9 - (k + 1)); rw [show k + 1 + (m9 - (k + 1)) = m9 by omega] at h; exact h))) (fun _ => ?_)
        refine lv_iconst (v := nI 1) hx hb dL_isAsked_148 (by decide +kernel) ?_
        refine lv_goto (tgt := 153) hx hb dL_isAsked_149 (by decide) ?_
        refine lv_istore (lv' := [(9, .int (nI 1)), (12, .int (qE q z (k + 1))), (0, .ref (x 0)), (1, .int (nI z)), (2, .int (nI (m9 + 1))), (6, .int (qE q z m9)), (10, .int (qE q z k)), (11, .int (nI (k + 2)))]) hx hb dL_isAsked_153 hl (by decide) rfl (fun ls hl => ?_)
        refine lv_iload hx hb dL_isAsked_155 (lv_at hl 1 rfl) ?_
        refine lv_istore (lv' := [(10, .int (qE q z (k + 1))), (9, .int (nI 1)), (12, .int (qE q z (k + 1))), (0, .ref (x 0)), (1, .int (nI z)), (2, .int (nI (m9 + 1))), (6, .int (qE q z m9)), (11, .int (nI (k + 2)))]) hx hb dL_isAsked_157 hl (by decide) rfl (fun ls hl => ?_)
        refine lv_iinc (v := nI (k + 2 + 1)) (lv' := [(11, .int (nI (k + 2 + 1))), (10, .int (qE q z (k + 1))), (9, .int (nI 1)), (12, .int (qE q z (k + 1))), (0, .ref (x 0)), (1, .int (nI z)), (2, .int (nI (m9 + 1))), (6, .int (qE q z m9))]) hx hb dL_isAsked_159 hl (k := 7) rfl (k_inc _) (by decide) rfl (fun ls hl => ?_)
        refine lv_goto (tgt := 114) hx hb dL_isAsked_162 (by decide) ?_
        exact ih (k + 1) (by omega) ρ H locs hP hD hS ls (lv_sub hl [4, 5, 6, 7, 2, 1, 0] rfl)
    exact lp m9 0 (by omega) ρ H locs hP hD hS ls (lv_sub hl [3, 4, 5, 7, 2, 1, 0] rfl)
  rcases cr_sp q z m9 with h9 | h9
  · obtain ⟨e1, e2, e3⟩ := h9
    refine lv_icmp_ne (tgt := 50) hx hb dL_isAsked_43 (by decide) (fun c9 => absurd e1 c9) (fun _ => ?_)
    refine lv_iconst (v := nI 1) hx hb dL_isAsked_46 (by decide +kernel) ?_
    refine lv_goto (tgt := 51) hx hb dL_isAsked_47 (by decide) ?_
    refine lv_aload_n hx hb dL_isAsked_51 rfl (lv_at hl 7 rfl) ?_
    have hPc : va_P D vwCl ((wQ cI cZ cO x a t b q ρ ++ [(ap, .inl (cI, 6, .inl pf))]) ++ []) H := by rw [List.append_nil]; exact hP
    have hDc : va_D A ((wQ cI cZ cO x a t b q ρ ++ [(ap, .inl (cI, 6, .inl pf))]) ++ []) := by rw [List.append_nil]; exact hD
    refine kCallP_i (mc := 0) (ms := 0) (T := []) (W1 := fun ρ : HS => wQ cI cZ cO x a t b q ρ ++ [(ap, .inl (cI, 6, .inl pf))]) (fun _ _ h => h) hPc hDc hS hA (fun _ => rfl) (va_runS (As := [.ref ap]) (rest := [.int (nI 1)]) ⟨hx, hb, hml, hown, hts⟩ (c_L_running l D cI cZ cO cJ x a t b q ρ ap pf B H.size hQ hp) (va_cwS (rm := rmL_running) 1 hts gL_isAsked_L_running rfl rfl rfl (by decide +kernel) ⟨Nat.le_of_ble_eq_true rfl, Nat.le_of_ble_eq_true rfl⟩) (kPreSHW hK hN hX hC (pfP hPc) (pfD hDc) hS (kfree (pfD hDc) hS hA)) rfl rfl hl.1 rfl (lv_room (Nat.le_of_ble_eq_true rfl)) dL_isAsked_52 ⟨Nat.zero_le _, Nat.zero_le _⟩) (fun r9 ρ H locs hr9 hP hD hS => ?_)
    have hr9 : r9 = mCnt (sF (qσ q)) 8 := hr9
    subst hr9
    have hP : va_P D vwCl (wQ cI cZ cO x a t b q ρ ++ [(ap, .inl (cI, 6, .inl pf))]) H := by rw [List.append_nil] at hP; exact hP
    have hD : va_D A (wQ cI cZ cO x a t b q ρ ++ [(ap, .inl (cI, 6, .inl pf))]) := by rw [List.append_nil] at hD; exact hD
    refine k_as (y := nI 0) (mCnt_0 8 e2) ?_
    refine lv_if_ne (tgt := 62) hx hb dL_isAsked_55 (by decide) (fun c9 => absurd (by decide +kernel) c9) (fun _ => ?_)
    refine lv_iconst (v := nI 1) hx hb dL_isAsked_58 (by decide +kernel) ?_
    refine lv_goto (tgt := 63) hx hb dL_isAsked_59 (by decide) ?_
    refine lv_icmp_ne (tgt := 100) hx hb dL_isAsked_63 (by decide) (fun c9 => absurd rfl c9) (fun _ => ?_)
    refine lv_iload hx hb dL_isAsked_66 (lv_at hl 1 rfl) ?_
    refine lv_if_ge (tgt := 85) hx hb dL_isAsked_68 (by decide) (fun c9 => absurd c9 (by rw [e1]; decide +kernel)) (fun _ => ?_)
    refine lv_iload hx hb dL_isAsked_71 (lv_at hl 0 rfl) ?_
    refine lv_aload_n hx hb dL_isAsked_73 rfl (lv_at hl 7 rfl) ?_
    refine lv_iconst (v := nI 3) hx hb dL_isAsked_74 (by decide +kernel) ?_
    refine k_ialdT hx hb hK hP 0 0 rfl rfl (i := 3) (by decide) (by decide) dL_isAsked_75 ?_
    refine k_as (y := qli q) hp.2.2.2.1 ?_
    refine lv_iload hx hb dL_isAsked_76 (lv_at hl 2 rfl) ?_
    refine lv_isub hx hb dL_isAsked_78 ?_
    refine lv_icmp_ne (tgt := 100) hx hb dL_isAsked_79 (by decide) (fun c9 => absurd e3 c9) (fun _ => ?_)
    refine lv_goto (tgt := 96) hx hb dL_isAsked_82 (by decide) ?_
    exact j96 ρ H locs hP hD hS ls (lv_sub hl [4, 5, 6, 7, 2] rfl)
  · obtain ⟨f0, e1, e2, e3, e4, e5⟩ := h9
    refine lv_icmp_ne (tgt := 50) hx hb dL_isAsked_43 (by decide) (fun _ => ?_) (fun c9 => absurd c9 (by rw [e3]; exact nI_m1 (by omega)))
    refine lv_iconst (v := nI 0) hx hb dL_isAsked_50 (by decide +kernel) ?_
    refine lv_aload_n hx hb dL_isAsked_51 rfl (lv_at hl 7 rfl) ?_
    have hPc : va_P D vwCl ((wQ cI cZ cO x a t b q ρ ++ [(ap, .inl (cI, 6, .inl pf))]) ++ []) H := by rw [List.append_nil]; exact hP
    have hDc : va_D A ((wQ cI cZ cO x a t b q ρ ++ [(ap, .inl (cI, 6, .inl pf))]) ++ []) := by rw [List.append_nil]; exact hD
    refine kCallP_i (mc := 0) (ms := 0) (T := []) (W1 := fun ρ : HS => wQ cI cZ cO x a t b q ρ ++ [(ap, .inl (cI, 6, .inl pf))]) (fun _ _ h => h) hPc hDc hS hA (fun _ => rfl) (va_runS (As := [.ref ap]) (rest := [.int (nI 0)]) ⟨hx, hb, hml, hown, hts⟩ (c_L_running l D cI cZ cO cJ x a t b q ρ ap pf B H.size hQ hp) (va_cwS (rm := rmL_running) 1 hts gL_isAsked_L_running rfl rfl rfl (by decide +kernel) ⟨Nat.le_of_ble_eq_true rfl, Nat.le_of_ble_eq_true rfl⟩) (kPreSHW hK hN hX hC (pfP hPc) (pfD hDc) hS (kfree (pfD hDc) hS hA)) rfl rfl hl.1 rfl (lv_room (Nat.le_of_ble_eq_true rfl)) dL_isAsked_52 ⟨Nat.zero_le _, Nat.zero_le _⟩) (fun r9 ρ H locs hr9 hP hD hS => ?_)
    have hr9 : r9 = mCnt (sF (qσ q)) 8 := hr9
    subst hr9
    have hP : va_P D vwCl (wQ cI cZ cO x a t b q ρ ++ [(ap, .inl (cI, 6, .inl pf))]) H := by rw [List.append_nil] at hP; exact hP
    have hD : va_D A (wQ cI cZ cO x a t b q ρ ++ [(ap, .inl (cI, 6, .inl pf))]) := by rw [List.append_nil] at hD; exact hD
    refine lv_if_ne (tgt := 62) hx hb dL_isAsked_55 (by decide) (fun _ => ?_) (fun c9 => absurd c9 (mCnt_n0 e2 e1))
    refine lv_iconst (v := nI 0) hx hb dL_isAsked_62 (by decide +kernel) ?_
    refine lv_icmp_ne (tgt := 100) hx hb dL_isAsked_63 (by decide) (fun c9 => absurd (by decide +kernel) c9) (fun _ => ?_)
    refine lv_iload hx hb dL_isAsked_66 (lv_at hl 1 rfl) ?_
    refine lv_if_ge (tgt := 85) hx hb dL_isAsked_68 (by decide) (fun _ => ?_) (fun c9 => absurd (by rw [e3]; exact nI_pos' (by omega)) c9)
    refine lv_aload_n hx hb dL_isAsked_85 rfl (lv_at hl 7 rfl) ?_
    refine lv_iconst (v := nI 5) hx hb dL_isAsked_86 (by decide +kernel) ?_
    refine k_ialdT hx hb hK hP 0 0 rfl rfl (i := 5) (by decide) (by decide) dL_isAsked_87 ?_
    refine lv_iload hx hb dL_isAsked_88 (lv_at hl 1 rfl) ?_
    refine k_as (y := nI f0) e3 ?_
    refine lv_ishr hx hb dL_isAsked_90 ?_
    refine lv_iconst (v := nI 1) hx hb dL_isAsked_91 (by decide +kernel) ?_
    refine lv_iand hx hb dL_isAsked_92 ?_
    refine k_as (y := sF (qσ q) f0) (hp.bit (by omega)) ?_
    refine lv_if_ne (tgt := 100) hx hb dL_isAsked_93 (by decide) (fun c9 => absurd e2 c9) (fun _ => ?_)
    exact j96 ρ H locs hP hD hS ls (lv_sub hl [4, 5, 6, 7, 2] rfl)

abbrev rxL_isFailing : Room := { frames := 10, cells := 1, slots := 6, locals := 181 }
set_option maxHeartbeats 4000000 in
set_option maxRecDepth 100000 in
theorem c_L_isFailing_can (l : Launch) (hst : l.stackTraces = false) (D : va_G) (cI cZ cO cJ : ClassId) (x a t b : Nat → Nat) (q : QS) (ρ : HS) (ap : Nat) (pf : Nat → Int32) (B : Nat) (f z m9 : Nat) (sz : Nat) (hQ : QOK q) (hp : PR pf q B) (hf : f < 8) (hz : z < 6) (hm : m9 < 60) (hF : sF (qσ q) f = nI 0) : kMH l yL_isFailing wsL_isFailing rxL_isFailing D (kT cI cZ cO cJ) [.ref (x 0), .int (nI f), .int (nI z), .int (nI (m9 + 1)), .ref ap] (wQ cI cZ cO x a t b q ρ ++ [(ap, .inl (cI, 6, .inl pf))]) (fun u : HS => wQ cI cZ cO x a t b (qsFail q f) u ++ [(ap, .inl (cI, 6, .inl (upd pf 5 (pf 5 ||| (nI 1 <<< (nI f &&& 31))))))]) 1 6 sz (nI 1) := by
  refine kEnterQ (cc := cL_isFailing) (maxL := 12) (ret := some .boolean) (by decide +kernel) rfl (Nat.le_of_ble_eq_true rfl) ?_
  intro p e s m below meth c args hx hb hr hml hts hown hlocks hK hN A hA9 Q hQ9 hP hD hsz hS hA hX hC ls hl
  have hl : lv_has ls 12 [(0, .ref (x 0)), (1, .int (nI f)), (2, .int (nI z)), (3, .int (nI (m9 + 1))), (4, .ref ap)] := hl
  obtain ⟨H, hH9⟩ : ∃ H, H = s.heap := ⟨_, rfl⟩
  rw [← hH9] at hP ⊢
  have hS : va_S A s.heap H [] := by rw [hH9]; exact va_S.rf
  have hlocs : ∃ locs : List Loc, locs = [] := ⟨_, rfl⟩
  obtain ⟨locs, hlocs⟩ := hlocs
  rw [← hlocs] at hS ⊢
  have hQ1 : QOK (qsFail q f) := hQ.fail
  have hp1 := hp.fail hf
  refine lv_aload hx hb dL_isFailing_0 (lv_at hl 4 rfl) ?_
  refine lv_iconst (v := nI 5) hx hb dL_isFailing_2 (by decide +kernel) ?_
  refine k_ialdT hx hb hK hP 0 0 rfl rfl (i := 5) (by decide) (by decide) dL_isFailing_3 ?_
  refine lv_iload_n hx hb dL_isFailing_4 rfl (lv_at hl 1 rfl) ?_
  refine lv_ishr hx hb dL_isFailing_5 ?_
  refine lv_iconst (v := nI 1) hx hb dL_isFailing_6 (by decide +kernel) ?_
  refine lv_iand hx hb dL_isFailing_7 ?_
  refine k_as (y := sF (qσ q) f) (hp.bit (by omega)) ?_
  refine k_as (y := nI 0) hF ?_
  refine lv_if_ne (tgt := 15) hx hb dL_isFailing_8 (by decide) (fun c9 => absurd (by decide +kernel) c9) (fun _ => ?_)
  refine lv_iconst (v := nI 1) hx hb dL_isFailing_11 (by decide +kernel) ?_
  refine lv_goto (tgt := 16) hx hb dL_isFailing_12 (by decide) ?_
  refine lv_istore (lv' := [(5, .int (nI 1)), (0, .ref (x 0)), (1, .int (nI f)), (2, .int (nI z)), (3, .int (nI (m9 + 1))), (4, .ref ap)]) hx hb dL_isFailing_16 hl (by decide) rfl (fun ls hl => ?_)
  refine lv_aload_n hx hb dL_isFailing_18 rfl (lv_at hl 1 rfl) ?_
  refine lv_iload_n hx hb dL_isFailing_19 rfl (lv_at hl 3 rfl) ?_
  refine lv_iload_n hx hb dL_isFailing_20 rfl (lv_at hl 4 rfl) ?_
  refine kCallP_i (mc := 0) (ms := 0) (W1 := fun ρ : HS => wQ cI cZ cO x a t b q ρ) (fun _ _ h => h) hP hD hS hA (fun _ => rfl) (va_runV (As := [.int (nI z), .int (nI (m9 + 1))]) (rest := []) ⟨hx, hb, hml, hown, hts⟩ (c_X2_critical l D cI cZ cO cJ x a t b (qK q) (qHo q) (qσ q) (sT ρ) (sE ρ) (sD ρ) (sF ρ) (sS ρ) (sC ρ) (sL ρ) (qLo q) (qSe q) (qEf q) (qgp q) (qgi q) (qam q) (qli q) (qdl q) z m9 H.size (by omega) (by omega) hQ.la hQ.dl hQ.F) (cwV (rm := rmX2_critical) 2 hts gL_isFailing_X2_critical rfl rfl rfl (by decide +kernel) ⟨Nat.le_of_ble_eq_true rfl, Nat.le_of_ble_eq_true rfl⟩) (kPreVW hK hN (pfP hP) (pfD hD) (va_recv hK (pfP hP) (ci := 2) (q0 := 0) rfl rfl)) rfl rfl hl.1 rfl (lv_room (Nat.le_of_ble_eq_true rfl)) dL_isFailing_21 ⟨Nat.le_of_ble_eq_true rfl, Nat.le_of_ble_eq_true rfl⟩) (fun r9 ρ H locs hr9 hP hD hS => ?_)
  have hr9 : r9 = qCr q z m9 := hr9
  subst hr9
  refine lv_istore (lv' := [(6, .int (qCr q z m9)), (5, .int (nI 1)), (0, .ref (x 0)), (1, .int (nI f)), (2, .int (nI z)), (3, .int (nI (m9 + 1))), (4, .ref ap)]) hx hb dL_isFailing_24 hl (by decide) rfl (fun ls hl => ?_)
  refine lv_aload_n hx hb dL_isFailing_26 rfl (lv_at hl 2 rfl) ?_
  refine lv_iload_n hx hb dL_isFailing_27 rfl (lv_at hl 4 rfl) ?_
  refine lv_iload_n hx hb dL_isFailing_28 rfl (lv_at hl 5 rfl) ?_
  refine kCallP_i (mc := 0) (ms := 0) (W1 := fun ρ : HS => wQ cI cZ cO x a t b q ρ) (fun _ _ h => h) hP hD hS hA (fun _ => rfl) (va_runV (As := [.int (nI z), .int (nI (m9 + 1))]) (rest := []) ⟨hx, hb, hml, hown, hts⟩ (c_X2_margin l D cI cZ cO cJ x a t b (qK q) (qHo q) (qσ q) (sT ρ) (sE ρ) (sD ρ) (sF ρ) (sS ρ) (sC ρ) (sL ρ) (qLo q) (qSe q) (qEf q) (qgp q) (qgi q) (qam q) (qli q) (qdl q) z m9 H.size (by omega) (by omega) hQ.la hQ.dl hQ.F) (cwV (rm := rmX2_margin) 2 hts gL_isFailing_X2_margin rfl rfl rfl (by decide +kernel) ⟨Nat.le_of_ble_eq_true rfl, Nat.le_of_ble_eq_true rfl⟩) (kPreVW hK hN (pfP hP) (pfD hD) (va_recv hK (pfP hP) (ci := 2) (q0 := 0) rfl rfl)) rfl rfl hl.1 rfl (lv_room (Nat.le_of_ble_eq_true rfl)) dL_isFailing_29 ⟨Nat.le_of_ble_eq_true rfl, Nat.le_of_ble_eq_true rfl⟩) (fun r9 ρ H locs hr9 hP hD hS => ?_)
  have hr9 : r9 = qM q z m9 := hr9
  subst hr9
  refine lv_istore (lv' := [(7, .int (qM q z m9)), (6, .int (qCr q z m9)), (5, .int (nI 1)), (0, .ref (x 0)), (1, .int (nI f)), (2, .int (nI z)), (3, .int (nI (m9 + 1))), (4, .ref ap)]) hx hb dL_isFailing_32 hl (by decide) rfl (fun ls hl => ?_)
  refine lv_aload_n hx hb dL_isFailing_34 rfl (lv_at hl 3 rfl) ?_
  refine lv_iload_n hx hb dL_isFailing_35 rfl (lv_at hl 4 rfl) ?_
  refine kCallP_i (mc := 0) (ms := 0) (W1 := fun _ : Unit => wQ cI cZ cO x a t b q ρ) (fun _ _ h => h) hP hD hS hA (fun _ => rfl) (va_runV (As := [.int (nI f)]) (rest := []) ⟨hx, hb, hml, hown, hts⟩ (c_X2_command l D cI cZ cO cJ x a t b (qK q) (qHo q) (sT (qσ q)) (sE (qσ q)) (sD (qσ q)) (sF (qσ q)) (sS (qσ q)) (sC (qσ q)) (sL (qσ q)) (sT ρ) (sE ρ) (sD ρ) (sF ρ) (sS ρ) (sC ρ) (sL ρ) (qLo q) (qSe q) (qEf q) (qgp q) (qgi q) (qam q) (qli q) (qdl q) f H.size (by omega) hQ.la) (cwV (rm := rmX2_command) 1 hts gL_isFailing_X2_command rfl rfl rfl (by decide +kernel) ⟨Nat.le_of_ble_eq_true rfl, Nat.le_of_ble_eq_true rfl⟩) (kPreVW hK hN (pfP hP) (pfD hD) (va_recv hK (pfP hP) (ci := 2) (q0 := 0) rfl rfl)) rfl rfl hl.1 rfl (lv_room (Nat.le_of_ble_eq_true rfl)) dL_isFailing_36 ⟨Nat.le_of_ble_eq_true rfl, Nat.le_of_ble_eq_true rfl⟩) (fun r9 u9 H locs hr9 hP hD hS => ?_)
  have hr9 : r9 = sC (qσ q) (sL (qσ q)) f := hr9
  subst hr9
  refine lv_istore (lv' := [(8, .int (sC (qσ q) (sL (qσ q)) f)), (7, .int (qM q z m9)), (6, .int (qCr q z m9)), (5, .int (nI 1)), (0, .ref (x 0)), (1, .int (nI f)), (2, .int (nI z)), (3, .int (nI (m9 + 1))), (4, .ref ap)]) hx hb dL_isFailing_39 hl (by decide) rfl (fun ls hl => ?_)
  refine lv_aload_n hx hb dL_isFailing_41 rfl (lv_at hl 4 rfl) ?_
  refine lv_iconst (v := nI 4) hx hb dL_isFailing_42 (by decide +kernel) ?_
  refine lv_iload_n hx hb dL_isFailing_43 rfl (lv_at hl 5 rfl) ?_
  refine lv_iconst (v := nI 0) hx hb dL_isFailing_44 (by decide +kernel) ?_
  refine lv_iconst (v := nI 0) hx hb dL_isFailing_45 (by decide +kernel) ?_
  refine kCallP_i (mc := 0) (ms := 0) (T := [(ap, .inl (cI, 6, .inl pf))]) (W1 := fun ρ : HS => wQ cI cZ cO x a t b (qsFail q f) ρ) (fun _ _ h => h) hP hD hS hA (fun _ => rfl) (vx_runSW (As := [.ref (x 0), .int (nI 4), .int (nI f), .int (nI 0), .int (nI 0)]) (rest := []) ⟨hx, hb, hml, hown, hts⟩ (c_L_set_fail l D cI cZ cO cJ x a t b q ρ f (nI 0) (nI 0) H.size hf (hF.trans nI_0)) (vx_cwSW (rm := rmL_set) 5 hts gL_isFailing_L_set rfl rfl rfl (by decide +kernel) ⟨Nat.le_of_ble_eq_true rfl, Nat.le_of_ble_eq_true rfl⟩) (kPreSHW hK hN hX hC (pfP hP) (pfD hD) hS (kfree (pfD hD) hS hA)) rfl rfl hl.1 rfl (lv_room (Nat.le_of_ble_eq_true rfl)) dL_isFailing_46 ⟨Nat.le_of_ble_eq_true rfl, Nat.le_of_ble_eq_true rfl⟩) (fun r9 ρ H locs hr9 hP hD hS => ?_)
  have hr9 : r9 = mCnt (sF (qσ (qsFail q f))) 8 := hr9
  subst hr9
  refine lv_istore (lv' := [(9, .int (mCnt (sF (qσ (qsFail q f))) 8)), (8, .int (sC (qσ q) (sL (qσ q)) f)), (7, .int (qM q z m9)), (6, .int (qCr q z m9)), (5, .int (nI 1)), (0, .ref (x 0)), (1, .int (nI f)), (2, .int (nI z)), (3, .int (nI (m9 + 1))), (4, .ref ap)]) hx hb dL_isFailing_49 hl (by decide) rfl (fun ls hl => ?_)
  refine lv_aload hx hb dL_isFailing_51 (lv_at hl 9 rfl) ?_
  refine lv_iconst (v := nI 5) hx hb dL_isFailing_53 (by decide +kernel) ?_
  refine lv_dup2_11 hx hb dL_isFailing_54 rfl rfl ?_
  refine k_ialdT hx hb hK hP 0 0 rfl rfl (i := 5) (by decide) (by decide) dL_isFailing_55 ?_
  refine lv_iconst (v := nI 1) hx hb dL_isFailing_56 (by decide +kernel) ?_
  refine lv_iload_n hx hb dL_isFailing_57 rfl (lv_at hl 6 rfl) ?_
  refine lv_ishl hx hb dL_isFailing_58 ?_
  refine lv_ior hx hb dL_isFailing_59 ?_
  refine k_iastT hx hb hK hP hD hS 0 0 rfl rfl (i := 5) (x := (pf 5) ||| ((nI 1) <<< (nI f &&& 31))) (by decide) (by decide) dL_isFailing_60 (fun H locs hP hD hS => ?_)
  have hP : va_P D vwCl (wQ cI cZ cO x a t b (qsFail q f) ρ ++ [(ap, .inl (cI, 6, .inl (upd pf 5 ((pf 5) ||| ((nI 1) <<< (nI f &&& 31))))))]) H := hP
  have hD : va_D A (wQ cI cZ cO x a t b (qsFail q f) ρ ++ [(ap, .inl (cI, 6, .inl (upd pf 5 ((pf 5) ||| ((nI 1) <<< (nI f &&& 31))))))]) := hD
  refine lv_iload hx hb dL_isFailing_61 (lv_at hl 0 rfl) ?_
  refine lv_iload hx hb dL_isFailing_63 (lv_at hl 4 rfl) ?_
  refine lv_if_eq (tgt := 76) hx hb dL_isFailing_65 (by decide) (fun c9 => absurd c9 (by decide +kernel)) (fun _ => ?_)
  refine lv_aload hx hb dL_isFailing_68 (lv_at hl 9 rfl) ?_
  have hPc : va_P D vwCl ((wQ cI cZ cO x a t b (qsFail q f) ρ ++ [(ap, .inl (cI, 6, .inl (upd pf 5 ((pf 5) ||| ((nI 1) <<< (nI f &&& 31))))))]) ++ []) H := by rw [List.append_nil]; exact hP
  have hDc : va_D A ((wQ cI cZ cO x a t b (qsFail q f) ρ ++ [(ap, .inl (cI, 6, .inl (upd pf 5 ((pf 5) ||| ((nI 1) <<< (nI f &&& 31))))))]) ++ []) := by rw [List.append_nil]; exact hD
  refine kCallP_i (mc := 0) (ms := 0) (T := []) (W1 := fun ρ : HS => wQ cI cZ cO x a t b (qsFail q f) ρ ++ [(ap, .inl (cI, 6, .inl (upd pf 5 ((pf 5) ||| ((nI 1) <<< (nI f &&& 31))))))]) (fun _ _ h => h) hPc hDc hS hA (fun _ => rfl) (va_runS (As := [.ref ap]) (rest := [.int (mCnt (sF (qσ (qsFail q f))) 8)]) ⟨hx, hb, hml, hown, hts⟩ (c_L_running l D cI cZ cO cJ x a t b (qsFail q f) ρ ap (upd pf 5 ((pf 5) ||| ((nI 1) <<< (nI f &&& 31)))) (B ||| 2 ^ f) H.size hQ1 hp1) (va_cwS (rm := rmL_running) 1 hts gL_isFailing_L_running rfl rfl rfl (by decide +kernel) ⟨Nat.le_of_ble_eq_true rfl, Nat.le_of_ble_eq_true rfl⟩) (kPreSHW hK hN hX hC (pfP hPc) (pfD hDc) hS (kfree (pfD hDc) hS hA)) rfl rfl hl.1 rfl (lv_room (Nat.le_of_ble_eq_true rfl)) dL_isFailing_70 ⟨Nat.le_of_ble_eq_true rfl, Nat.le_of_ble_eq_true rfl⟩) (fun r9 ρ H locs hr9 hP hD hS => ?_)
  have hr9 : r9 = mCnt (sF (qσ (qsFail q f))) 8 := hr9
  subst hr9
  have hP : va_P D vwCl (wQ cI cZ cO x a t b (qsFail q f) ρ ++ [(ap, .inl (cI, 6, .inl (upd pf 5 ((pf 5) ||| ((nI 1) <<< (nI f &&& 31))))))]) H := by rw [List.append_nil] at hP; exact hP
  have hD : va_D A (wQ cI cZ cO x a t b (qsFail q f) ρ ++ [(ap, .inl (cI, 6, .inl (upd pf 5 ((pf 5) ||| ((nI 1) <<< (nI f &&& 31))))))]) := by rw [List.append_nil] at hD; exact hD
  refine lv_goto (tgt := 78) hx hb dL_isFailing_73 (by decide) ?_
  refine lv_icmp_ne (tgt := 103) hx hb dL_isFailing_78 (by decide) (fun c9 => absurd rfl c9) (fun _ => ?_)
  refine lv_aload_n hx hb dL_isFailing_81 rfl (lv_at hl 5 rfl) ?_
  refine lv_iload_n hx hb dL_isFailing_82 rfl (lv_at hl 6 rfl) ?_
  refine kCallP_i (mc := 0) (ms := 0) (W1 := fun _ : Unit => wQ cI cZ cO x a t b (qsFail q f) ρ) (fun _ _ h => h) hP hD hS hA (fun _ => rfl) (va_runV (As := [.int (nI f)]) (rest := []) ⟨hx, hb, hml, hown, hts⟩ (c_X2_speed l D cI cZ cO cJ x a t b (qK (qsFail q f)) (qHo (qsFail q f)) (sT (qσ (qsFail q f))) (sE (qσ (qsFail q f))) (sD (qσ (qsFail q f))) (sF (qσ (qsFail q f))) (sS (qσ (qsFail q f))) (sC (qσ (qsFail q f))) (sL (qσ (qsFail q f))) (sT ρ) (sE ρ) (sD ρ) (sF ρ) (sS ρ) (sC ρ) (sL ρ) (qLo (qsFail q f)) (qSe (qsFail q f)) (qEf (qsFail q f)) (qgp (qsFail q f)) (qgi (qsFail q f)) (qam (qsFail q f)) (qli (qsFail q f)) (qdl (qsFail q f)) f H.size (by omega)) (cwV (rm := rmX2_speed) 1 hts gL_isFailing_X2_speed rfl rfl rfl (by decide +kernel) ⟨Nat.le_of_ble_eq_true rfl, Nat.le_of_ble_eq_true rfl⟩) (kPreVW hK hN (pfP hP) (pfD hD) (va_recv hK (pfP hP) (ci := 2) (q0 := 0) rfl rfl)) rfl rfl hl.1 rfl (lv_room (Nat.le_of_ble_eq_true rfl)) dL_isFailing_83 ⟨Nat.le_of_ble_eq_true rfl, Nat.le_of_ble_eq_true rfl⟩) (fun r9 u9 H locs hr9 hP hD hS => ?_)
  have hr9 : r9 = sS (qσ (qsFail q f)) f := hr9
  subst hr9
  refine lv_if_ne (tgt := 103) hx hb dL_isFailing_86 (by decide) (fun c9 => absurd (show upd (sS (qσ q)) f (nI 0) f = 0 from (by unfold upd; rw [if_pos rfl]; exact nI_0)) c9) (fun _ => ?_)
  refine lv_aload_n hx hb dL_isFailing_89 rfl (lv_at hl 5 rfl) ?_
  refine lv_iload_n hx hb dL_isFailing_90 rfl (lv_at hl 6 rfl) ?_
  refine kCallP_i (mc := 0) (ms := 0) (W1 := fun _ : Unit => wQ cI cZ cO x a t b (qsFail q f) ρ) (fun _ _ h => h) hP hD hS hA (fun _ => rfl) (va_runV (As := [.int (nI f)]) (rest := []) ⟨hx, hb, hml, hown, hts⟩ (c_X2_command l D cI cZ cO cJ x a t b (qK (qsFail q f)) (qHo (qsFail q f)) (sT (qσ (qsFail q f))) (sE (qσ (qsFail q f))) (sD (qσ (qsFail q f))) (sF (qσ (qsFail q f))) (sS (qσ (qsFail q f))) (sC (qσ (qsFail q f))) (sL (qσ (qsFail q f))) (sT ρ) (sE ρ) (sD ρ) (sF ρ) (sS ρ) (sC ρ) (sL ρ) (qLo (qsFail q f)) (qSe (qsFail q f)) (qEf (qsFail q f)) (qgp (qsFail q f)) (qgi (qsFail q f)) (qam (qsFail q f)) (qli (qsFail q f)) (qdl (qsFail q f)) f H.size (by omega) hQ1.la) (cwV (rm := rmX2_command) 1 hts gL_isFailing_X2_command rfl rfl rfl (by decide +kernel) ⟨Nat.le_of_ble_eq_true rfl, Nat.le_of_ble_eq_true rfl⟩) (kPreVW hK hN (pfP hP) (pfD hD) (va_recv hK (pfP hP) (ci := 2) (q0 := 0) rfl rfl)) rfl rfl hl.1 rfl (lv_room (Nat.le_of_ble_eq_true rfl)) dL_isFailing_91 ⟨Nat.le_of_ble_eq_true rfl, Nat.le_of_ble_eq_true rfl⟩) (fun r9 u9 H locs hr9 hP hD hS => ?_)
  have hr9 : r9 = sC (qσ (qsFail q f)) (sL (qσ (qsFail q f))) f := hr9
  subst hr9
  refine lv_iload hx hb dL_isFailing_94 (lv_at hl 1 rfl) ?_
  refine lv_icmp_ne (tgt := 103) hx hb dL_isFailing_96 (by decide) (fun c9 => absurd rfl c9) (fun _ => ?_)
  refine lv_iconst (v := nI 1) hx hb dL_isFailing_99 (by decide +kernel) ?_
  refine lv_goto (tgt := 104) hx hb dL_isFailing_100 (by decide) ?_
  refine lv_istore (lv' := [(10, .int (nI 1)), (9, .int (mCnt (sF (qσ (qsFail q f))) 8)), (8, .int (sC (qσ q) (sL (qσ q)) f)), (7, .int (qM q z m9)), (6, .int (qCr q z m9)), (5, .int (nI 1)), (0, .ref (x 0)), (1, .int (nI f)), (2, .int (nI z)), (3, .int (nI (m9 + 1))), (4, .ref ap)]) hx hb dL_isFailing_104 hl (by decide) rfl (fun ls hl => ?_)
  refine lv_aload_n hx hb dL_isFailing_106 rfl (lv_at hl 6 rfl) ?_
  refine lv_iload_n hx hb dL_isFailing_107 rfl (lv_at hl 8 rfl) ?_
  refine lv_iload_n hx hb dL_isFailing_108 rfl (lv_at hl 9 rfl) ?_
  refine kCallP_i (mc := 0) (ms := 0) (W1 := fun ρ : HS => wQ cI cZ cO x a t b (qsFail q f) ρ) (fun _ _ h => h) hP hD hS hA (fun _ => rfl) (va_runV (As := [.int (nI z), .int (nI (m9 + 1))]) (rest := []) ⟨hx, hb, hml, hown, hts⟩ (c_X2_expected l D cI cZ cO cJ x a t b (qK (qsFail q f)) (qHo (qsFail q f)) (qσ (qsFail q f)) (sT ρ) (sE ρ) (sD ρ) (sF ρ) (sS ρ) (sC ρ) (sL ρ) (qLo (qsFail q f)) (qSe (qsFail q f)) (qEf (qsFail q f)) (qgp (qsFail q f)) (qgi (qsFail q f)) (qam (qsFail q f)) (qli (qsFail q f)) (qdl (qsFail q f)) z m9 H.size (by omega) (by omega) hQ1.la hQ1.dl hQ1.F) (cwV (rm := rmX2_expected) 2 hts gL_isFailing_X2_expected rfl rfl rfl (by decide +kernel) ⟨Nat.le_of_ble_eq_true rfl, Nat.le_of_ble_eq_true rfl⟩) (kPreVW hK hN (pfP hP) (pfD hD) (va_recv hK (pfP hP) (ci := 2) (q0 := 0) rfl rfl)) rfl rfl hl.1 rfl (lv_room (Nat.le_of_ble_eq_true rfl)) dL_isFailing_109 ⟨Nat.le_of_ble_eq_true rfl, Nat.le_of_ble_eq_true rfl⟩) (fun r9 ρ H locs hr9 hP hD hS => ?_)
  have hr9 : r9 = qE (qsFail q f) z m9 := hr9
  subst hr9
  refine lv_istore (lv' := [(11, .int (qE (qsFail q f) z m9)), (10, .int (nI 1)), (9, .int (mCnt (sF (qσ (qsFail q f))) 8)), (8, .int (sC (qσ q) (sL (qσ q)) f)), (7, .int (qM q z m9)), (6, .int (qCr q z m9)), (5, .int (nI 1)), (0, .ref (x 0)), (1, .int (nI f)), (2, .int (nI z)), (3, .int (nI (m9 + 1))), (4, .ref ap)]) hx hb dL_isFailing_112 hl (by decide) rfl (fun ls hl => ?_)
  refine lv_iload hx hb dL_isFailing_114 (lv_at hl 1 rfl) ?_
  refine lv_if_eq (tgt := 161) hx hb dL_isFailing_116 (by decide) (fun c9 => absurd c9 (by decide +kernel)) (fun _ => ?_)
  refine lv_iload hx hb dL_isFailing_119 (lv_at hl 6 rfl) ?_
  refine lv_if_eq (tgt := 157) hx hb dL_isFailing_121 (by decide) (fun c9 => absurd c9 (by decide +kernel)) (fun _ => ?_)
  refine lv_iload_n hx hb dL_isFailing_124 rfl (lv_at hl 8 rfl) ?_
  refine lv_iload hx hb dL_isFailing_125 (lv_at hl 5 rfl) ?_
  refine lv_icmp_ne (tgt := 145) hx hb dL_isFailing_127 (by decide) (fun c1 => ?_) (fun c1 => ?_)
  · refine lv_iload hx hb dL_isFailing_145 (lv_at hl 4 rfl) ?_
    refine lv_aload hx hb dL_isFailing_147 (lv_at hl 11 rfl) ?_
    refine lv_iconst (v := nI 3) hx hb dL_isFailing_149 (by decide +kernel) ?_
    refine k_ialdT hx hb hK hP 0 0 rfl rfl (i := 3) (by decide) (by decide) dL_isFailing_150 ?_
    refine k_as (y := qli (qsFail q f)) hp1.2.2.2.1 ?_
    refine lv_iload hx hb dL_isFailing_151 (lv_at hl 0 rfl) ?_
    refine lv_isub hx hb dL_isFailing_153 ?_
    refine lv_icmp_gt (tgt := 161) hx hb dL_isFailing_154 (by decide) (fun c9 => absurd c9 (Int32.not_lt.mpr (qM_fail hQ hz hf (hF.trans nI_0) m9).1)) (fun _ => ?_)
    refine lv_iconst (v := nI 1) hx hb dL_isFailing_157 (by decide +kernel) ?_
    refine lv_goto (tgt := 162) hx hb dL_isFailing_158 (by decide) ?_
    refine W.widen (k := 1) (n := 6) (by decide) (by decide) ?_
    subst hQ9
    subst hA9
    exact kRetH_z ρ hx hb hr hlocks hP hS dL_isFailing_162 rfl (by first | rfl | decide +kernel)
  · refine lv_iload hx hb dL_isFailing_130 (lv_at hl 4 rfl) ?_
    refine lv_aload hx hb dL_isFailing_132 (lv_at hl 11 rfl) ?_
    refine lv_iconst (v := nI 3) hx hb dL_isFailing_134 (by decide +kernel) ?_
    refine k_ialdT hx hb hK hP 0 0 rfl rfl (i := 3) (by decide) (by decide) dL_isFailing_135 ?_
    refine k_as (y := qli (qsFail q f)) hp1.2.2.2.1 ?_
    refine lv_iload hx hb dL_isFailing_136 (lv_at hl 0 rfl) ?_
    refine lv_isub hx hb dL_isFailing_138 ?_
    refine lv_icmp_ne (tgt := 161) hx hb dL_isFailing_139 (by decide) (fun c9 => absurd (((qM_fail hQ hz hf (hF.trans nI_0) m9).2 c1)) c9) (fun _ => ?_)
    refine lv_goto (tgt := 157) hx hb dL_isFailing_142 (by decide) ?_
    refine lv_iconst (v := nI 1) hx hb dL_isFailing_157 (by decide +kernel) ?_
    refine lv_goto (tgt := 162) hx hb dL_isFailing_158 (by decide) ?_
    refine W.widen (k := 1) (n := 6) (by decide) (by decide) ?_
    subst hQ9
    subst hA9
    exact kRetH_z ρ hx hb hr hlocks hP hS dL_isFailing_162 rfl (by first | rfl | decide +kernel)

set_option maxHeartbeats 4000000 in
set_option maxRecDepth 100000 in
theorem c_L_isFailing_not (l : Launch) (hst : l.stackTraces = false) (D : va_G) (cI cZ cO cJ : ClassId) (x a t b : Nat → Nat) (q : QS) (ρ : HS) (ap : Nat) (pf : Nat → Int32) (B : Nat) (f z m9 : Nat) (sz : Nat) (hQ : QOK q) (hp : PR pf q B) (hf : f < 8) (hz : z < 6) (hm : m9 < 60) (hF : sF (qσ q) f = nI 1) : kMH l yL_isFailing wsL_isFailing rxL_isFailing D (kT cI cZ cO cJ) [.ref (x 0), .int (nI f), .int (nI z), .int (nI (m9 + 1)), .ref ap] (wQ cI cZ cO x a t b q ρ ++ [(ap, .inl (cI, 6, .inl pf))]) (fun u : HS => wQ cI cZ cO x a t b q u ++ [(ap, .inl (cI, 6, .inl (upd pf 5 (pf 5 ||| (nI 1 <<< (nI f &&& 31))))))]) 1 6 sz (nI 1) := by
  refine kEnterQ (cc := cL_isFailing) (maxL := 12) (ret := some .boolean) (by decide +kernel) rfl (Nat.le_of_ble_eq_true rfl) ?_
  intro p e s m below meth c args hx hb hr hml hts hown hlocks hK hN A hA9 Q hQ9 hP hD hsz hS hA hX hC ls hl
  have hl : lv_has ls 12 [(0, .ref (x 0)), (1, .int (nI f)), (2, .int (nI z)), (3, .int (nI (m9 + 1))), (4, .ref ap)] := hl
  obtain ⟨H, hH9⟩ : ∃ H, H = s.heap := ⟨_, rfl⟩
  rw [← hH9] at hP ⊢
  have hS : va_S A s.heap H [] := by rw [hH9]; exact va_S.rf
  have hlocs : ∃ locs : List Loc, locs = [] := ⟨_, rfl⟩
  obtain ⟨locs, hlocs⟩ := hlocs
  rw [← hlocs] at hS ⊢
  have hQ1 : QOK (qsFail q f) := hQ.fail
  have hp1 := hp.fail hf
  refine lv_aload hx hb dL_isFailing_0 (lv_at hl 4 rfl) ?_
  refine lv_iconst (v := nI 5) hx hb dL_isFailing_2 (by decide +kernel) ?_
  refine k_ialdT hx hb hK hP 0 0 rfl rfl (i := 5) (by decide) (by decide) dL_isFailing_3 ?_
  refine lv_iload_n hx hb dL_isFailing_4 rfl (lv_at hl 1 rfl) ?_
  refine lv_ishr hx hb dL_isFailing_5 ?_
  refine lv_iconst (v := nI 1) hx hb dL_isFailing_6 (by decide +kernel) ?_
  refine lv_iand hx hb dL_isFailing_7 ?_
  refine k_as (y := sF (qσ q) f) (hp.bit (by omega)) ?_
  refine k_as (y := nI 1) hF ?_
  refine lv_if_ne (tgt := 15) hx hb dL_isFailing_8 (by decide) (fun _ => ?_) (fun c9 => absurd c9 (by decide +kernel))
  refine lv_iconst (v := nI 0) hx hb dL_isFailing_15 (by decide +kernel) ?_
  refine lv_istore (lv' := [(5, .int (nI 0)), (0, .ref (x 0)), (1, .int (nI f)), (2, .int (nI z)), (3, .int (nI (m9 + 1))), (4, .ref ap)]) hx hb dL_isFailing_16 hl (by decide) rfl (fun ls hl => ?_)
  refine lv_aload_n hx hb dL_isFailing_18 rfl (lv_at hl 1 rfl) ?_
  refine lv_iload_n hx hb dL_isFailing_19 rfl (lv_at hl 3 rfl) ?_
  refine lv_iload_n hx hb dL_isFailing_20 rfl (lv_at hl 4 rfl) ?_
  refine kCallP_i (mc := 0) (ms := 0) (W1 := fun ρ : HS => wQ cI cZ cO x a t b q ρ) (fun _ _ h => h) hP hD hS hA (fun _ => rfl) (va_runV (As := [.int (nI z), .int (nI (m9 + 1))]) (rest := []) ⟨hx, hb, hml, hown, hts⟩ (c_X2_critical l D cI cZ cO cJ x a t b (qK q) (qHo q) (qσ q) (sT ρ) (sE ρ) (sD ρ) (sF ρ) (sS ρ) (sC ρ) (sL ρ) (qLo q) (qSe q) (qEf q) (qgp q) (qgi q) (qam q) (qli q) (qdl q) z m9 H.size (by omega) (by omega) hQ.la hQ.dl hQ.F) (cwV (rm := rmX2_critical) 2 hts gL_isFailing_X2_critical rfl rfl rfl (by decide +kernel) ⟨Nat.le_of_ble_eq_true rfl, Nat.le_of_ble_eq_true rfl⟩) (kPreVW hK hN (pfP hP) (pfD hD) (va_recv hK (pfP hP) (ci := 2) (q0 := 0) rfl rfl)) rfl rfl hl.1 rfl (lv_room (Nat.le_of_ble_eq_true rfl)) dL_isFailing_21 ⟨Nat.le_of_ble_eq_true rfl, Nat.le_of_ble_eq_true rfl⟩) (fun r9 ρ H locs hr9 hP hD hS => ?_)
  have hr9 : r9 = qCr q z m9 := hr9
  subst hr9
  refine lv_istore (lv' := [(6, .int (qCr q z m9)), (5, .int (nI 0)), (0, .ref (x 0)), (1, .int (nI f)), (2, .int (nI z)), (3, .int (nI (m9 + 1))), (4, .ref ap)]) hx hb dL_isFailing_24 hl (by decide) rfl (fun ls hl => ?_)
  refine lv_aload_n hx hb dL_isFailing_26 rfl (lv_at hl 2 rfl) ?_
  refine lv_iload_n hx hb dL_isFailing_27 rfl (lv_at hl 4 rfl) ?_
  refine lv_iload_n hx hb dL_isFailing_28 rfl (lv_at hl 5 rfl) ?_
  refine kCallP_i (mc := 0) (ms := 0) (W1 := fun ρ : HS => wQ cI cZ cO x a t b q ρ) (fun _ _ h => h) hP hD hS hA (fun _ => rfl) (va_runV (As := [.int (nI z), .int (nI (m9 + 1))]) (rest := []) ⟨hx, hb, hml, hown, hts⟩ (c_X2_margin l D cI cZ cO cJ x a t b (qK q) (qHo q) (qσ q) (sT ρ) (sE ρ) (sD ρ) (sF ρ) (sS ρ) (sC ρ) (sL ρ) (qLo q) (qSe q) (qEf q) (qgp q) (qgi q) (qam q) (qli q) (qdl q) z m9 H.size (by omega) (by omega) hQ.la hQ.dl hQ.F) (cwV (rm := rmX2_margin) 2 hts gL_isFailing_X2_margin rfl rfl rfl (by decide +kernel) ⟨Nat.le_of_ble_eq_true rfl, Nat.le_of_ble_eq_true rfl⟩) (kPreVW hK hN (pfP hP) (pfD hD) (va_recv hK (pfP hP) (ci := 2) (q0 := 0) rfl rfl)) rfl rfl hl.1 rfl (lv_room (Nat.le_of_ble_eq_true rfl)) dL_isFailing_29 ⟨Nat.le_of_ble_eq_true rfl, Nat.le_of_ble_eq_true rfl⟩) (fun r9 ρ H locs hr9 hP hD hS => ?_)
  have hr9 : r9 = qM q z m9 := hr9
  subst hr9
  refine lv_istore (lv' := [(7, .int (qM q z m9)), (6, .int (qCr q z m9)), (5, .int (nI 0)), (0, .ref (x 0)), (1, .int (nI f)), (2, .int (nI z)), (3, .int (nI (m9 + 1))), (4, .ref ap)]) hx hb dL_isFailing_32 hl (by decide) rfl (fun ls hl => ?_)
  refine lv_aload_n hx hb dL_isFailing_34 rfl (lv_at hl 3 rfl) ?_
  refine lv_iload_n hx hb dL_isFailing_35 rfl (lv_at hl 4 rfl) ?_
  refine kCallP_i (mc := 0) (ms := 0) (W1 := fun _ : Unit => wQ cI cZ cO x a t b q ρ) (fun _ _ h => h) hP hD hS hA (fun _ => rfl) (va_runV (As := [.int (nI f)]) (rest := []) ⟨hx, hb, hml, hown, hts⟩ (c_X2_command l D cI cZ cO cJ x a t b (qK q) (qHo q) (sT (qσ q)) (sE (qσ q)) (sD (qσ q)) (sF (qσ q)) (sS (qσ q)) (sC (qσ q)) (sL (qσ q)) (sT ρ) (sE ρ) (sD ρ) (sF ρ) (sS ρ) (sC ρ) (sL ρ) (qLo q) (qSe q) (qEf q) (qgp q) (qgi q) (qam q) (qli q) (qdl q) f H.size (by omega) hQ.la) (cwV (rm := rmX2_command) 1 hts gL_isFailing_X2_command rfl rfl rfl (by decide +kernel) ⟨Nat.le_of_ble_eq_true rfl, Nat.le_of_ble_eq_true rfl⟩) (kPreVW hK hN (pfP hP) (pfD hD) (va_recv hK (pfP hP) (ci := 2) (q0 := 0) rfl rfl)) rfl rfl hl.1 rfl (lv_room (Nat.le_of_ble_eq_true rfl)) dL_isFailing_36 ⟨Nat.le_of_ble_eq_true rfl, Nat.le_of_ble_eq_true rfl⟩) (fun r9 u9 H locs hr9 hP hD hS => ?_)
  have hr9 : r9 = sC (qσ q) (sL (qσ q)) f := hr9
  subst hr9
  refine lv_istore (lv' := [(8, .int (sC (qσ q) (sL (qσ q)) f)), (7, .int (qM q z m9)), (6, .int (qCr q z m9)), (5, .int (nI 0)), (0, .ref (x 0)), (1, .int (nI f)), (2, .int (nI z)), (3, .int (nI (m9 + 1))), (4, .ref ap)]) hx hb dL_isFailing_39 hl (by decide) rfl (fun ls hl => ?_)
  refine lv_aload_n hx hb dL_isFailing_41 rfl (lv_at hl 4 rfl) ?_
  refine lv_iconst (v := nI 4) hx hb dL_isFailing_42 (by decide +kernel) ?_
  refine lv_iload_n hx hb dL_isFailing_43 rfl (lv_at hl 5 rfl) ?_
  refine lv_iconst (v := nI 0) hx hb dL_isFailing_44 (by decide +kernel) ?_
  refine lv_iconst (v := nI 0) hx hb dL_isFailing_45 (by decide +kernel) ?_
  refine kCallP_i (mc := 1) (ms := 6) (T := [(ap, .inl (cI, 6, .inl pf))]) (W1 := fun ρ : HS => wQ cI cZ cO x a t b q ρ) (fun _ _ h => h) hP hD hS hA (fun _ => rfl) (vx_runSW (As := [.ref (x 0), .int (nI 4), .int (nI f), .int (nI 0), .int (nI 0)]) (rest := []) ⟨hx, hb, hml, hown, hts⟩ (c_L_set_fail_two l hst D cI cZ cO cJ x a t b q ρ f (nI 0) (nI 0) H.size hf (by rw [hF]; decide +kernel)) (vx_cwSW (rm := rxL_set) 5 hts gL_isFailing_L_set rfl rfl rfl (by decide +kernel) ⟨Nat.le_of_ble_eq_true rfl, Nat.le_of_ble_eq_true rfl⟩) (kPreSHW hK hN hX hC (pfP hP) (pfD hD) hS (kfree (pfD hD) hS hA)) rfl rfl hl.1 rfl (lv_room (Nat.le_of_ble_eq_true rfl)) dL_isFailing_46 ⟨Nat.le_of_ble_eq_true rfl, Nat.le_of_ble_eq_true rfl⟩) (fun r9 ρ H locs hr9 hP hD hS => ?_)
  have hr9 : r9 = (-9000002) := hr9
  subst hr9
  refine W.widen (k := 1) (n := 6) (by decide) (by decide) ?_
  refine lv_istore (lv' := [(9, .int (-9000002)), (8, .int (sC (qσ q) (sL (qσ q)) f)), (7, .int (qM q z m9)), (6, .int (qCr q z m9)), (5, .int (nI 0)), (0, .ref (x 0)), (1, .int (nI f)), (2, .int (nI z)), (3, .int (nI (m9 + 1))), (4, .ref ap)]) hx hb dL_isFailing_49 hl (by decide) rfl (fun ls hl => ?_)
  refine lv_aload hx hb dL_isFailing_51 (lv_at hl 9 rfl) ?_
  refine lv_iconst (v := nI 5) hx hb dL_isFailing_53 (by decide +kernel) ?_
  refine lv_dup2_11 hx hb dL_isFailing_54 rfl rfl ?_
  refine k_ialdT hx hb hK hP 0 0 rfl rfl (i := 5) (by decide) (by decide) dL_isFailing_55 ?_
  refine lv_iconst (v := nI 1) hx hb dL_isFailing_56 (by decide +kernel) ?_
  refine lv_iload_n hx hb dL_isFailing_57 rfl (lv_at hl 6 rfl) ?_
  refine lv_ishl hx hb dL_isFailing_58 ?_
  refine lv_ior hx hb dL_isFailing_59 ?_
  refine k_iastT hx hb hK hP hD hS 0 0 rfl rfl (i := 5) (x := (pf 5) ||| ((nI 1) <<< (nI f &&& 31))) (by decide) (by decide) dL_isFailing_60 (fun H locs hP hD hS => ?_)
  have hP : va_P D vwCl (wQ cI cZ cO x a t b q ρ ++ [(ap, .inl (cI, 6, .inl (upd pf 5 ((pf 5) ||| ((nI 1) <<< (nI f &&& 31))))))]) H := hP
  have hD : va_D A (wQ cI cZ cO x a t b q ρ ++ [(ap, .inl (cI, 6, .inl (upd pf 5 ((pf 5) ||| ((nI 1) <<< (nI f &&& 31))))))]) := hD
  refine lv_iload hx hb dL_isFailing_61 (lv_at hl 0 rfl) ?_
  refine lv_iload hx hb dL_isFailing_63 (lv_at hl 4 rfl) ?_
  refine lv_if_eq (tgt := 76) hx hb dL_isFailing_65 (by decide) (fun _ => ?_) (fun c9 => absurd (by decide +kernel) c9)
  refine lv_ldc hx hb hown (hts (.constant RL 40 (-9000002)) (by decide +kernel)) dL_isFailing_76 ?_
  refine lv_icmp_ne (tgt := 103) hx hb dL_isFailing_78 (by decide) (fun c9 => absurd (by decide +kernel) c9) (fun _ => ?_)
  refine lv_aload_n hx hb dL_isFailing_81 rfl (lv_at hl 5 rfl) ?_
  refine lv_iload_n hx hb dL_isFailing_82 rfl (lv_at hl 6 rfl) ?_
  refine kCallP_i (mc := 0) (ms := 0) (W1 := fun _ : Unit => wQ cI cZ cO x a t b q ρ) (fun _ _ h => h) hP hD hS hA (fun _ => rfl) (va_runV (As := [.int (nI f)]) (rest := []) ⟨hx, hb, hml, hown, hts⟩ (c_X2_speed l D cI cZ cO cJ x a t b (qK q) (qHo q) (sT (qσ q)) (sE (qσ q)) (sD (qσ q)) (sF (qσ q)) (sS (qσ q)) (sC (qσ q)) (sL (qσ q)) (sT ρ) (sE ρ) (sD ρ) (sF ρ) (sS ρ) (sC ρ) (sL ρ) (qLo q) (qSe q) (qEf q) (qgp q) (qgi q) (qam q) (qli q) (qdl q) f H.size (by omega)) (cwV (rm := rmX2_speed) 1 hts gL_isFailing_X2_speed rfl rfl rfl (by decide +kernel) ⟨Nat.le_of_ble_eq_true rfl, Nat.le_of_ble_eq_true rfl⟩) (kPreVW hK hN (pfP hP) (pfD hD) (va_recv hK (pfP hP) (ci := 2) (q0 := 0) rfl rfl)) rfl rfl hl.1 rfl (lv_room (Nat.le_of_ble_eq_true rfl)) dL_isFailing_83 ⟨Nat.le_of_ble_eq_true rfl, Nat.le_of_ble_eq_true rfl⟩) (fun r9 u9 H locs hr9 hP hD hS => ?_)
  have hr9 : r9 = sS (qσ q) f := hr9
  subst hr9
  refine lv_if_ne (tgt := 103) hx hb dL_isFailing_86 (by decide) (fun c9 => absurd ((hQ.2.2.2.2.2.1 f hf (by rw [hF]; decide +kernel)).trans nI_0) c9) (fun _ => ?_)
  refine lv_aload_n hx hb dL_isFailing_89 rfl (lv_at hl 5 rfl) ?_
  refine lv_iload_n hx hb dL_isFailing_90 rfl (lv_at hl 6 rfl) ?_
  refine kCallP_i (mc := 0) (ms := 0) (W1 := fun _ : Unit => wQ cI cZ cO x a t b q ρ) (fun _ _ h => h) hP hD hS hA (fun _ => rfl) (va_runV (As := [.int (nI f)]) (rest := []) ⟨hx, hb, hml, hown, hts⟩ (c_X2_command l D cI cZ cO cJ x a t b (qK q) (qHo q) (sT (qσ q)) (sE (qσ q)) (sD (qσ q)) (sF (qσ q)) (sS (qσ q)) (sC (qσ q)) (sL (qσ q)) (sT ρ) (sE ρ) (sD ρ) (sF ρ) (sS ρ) (sC ρ) (sL ρ) (qLo q) (qSe q) (qEf q) (qgp q) (qgi q) (qam q) (qli q) (qdl q) f H.size (by omega) hQ.la) (cwV (rm := rmX2_command) 1 hts gL_isFailing_X2_command rfl rfl rfl (by decide +kernel) ⟨Nat.le_of_ble_eq_true rfl, Nat.le_of_ble_eq_true rfl⟩) (kPreVW hK hN (pfP hP) (pfD hD) (va_recv hK (pfP hP) (ci := 2) (q0 := 0) rfl rfl)) rfl rfl hl.1 rfl (lv_room (Nat.le_of_ble_eq_true rfl)) dL_isFailing_91 ⟨Nat.le_of_ble_eq_true rfl, Nat.le_of_ble_eq_true rfl⟩) (fun r9 u9 H locs hr9 hP hD hS => ?_)
  have hr9 : r9 = sC (qσ q) (sL (qσ q)) f := hr9
  subst hr9
  refine lv_iload hx hb dL_isFailing_94 (lv_at hl 1 rfl) ?_
  refine lv_icmp_ne (tgt := 103) hx hb dL_isFailing_96 (by decide) (fun c9 => absurd rfl c9) (fun _ => ?_)
  refine lv_iconst (v := nI 1) hx hb dL_isFailing_99 (by decide +kernel) ?_
  refine lv_goto (tgt := 104) hx hb dL_isFailing_100 (by decide) ?_
  refine lv_istore (lv' := [(10, .int (nI 1)), (9, .int (-9000002)), (8, .int (sC (qσ q) (sL (qσ q)) f)), (7, .int (qM q z m9)), (6, .int (qCr q z m9)), (5, .int (nI 0)), (0, .ref (x 0)), (1, .int (nI f)), (2, .int (nI z)), (3, .int (nI (m9 + 1))), (4, .ref ap)]) hx hb dL_isFailing_104 hl (by decide) rfl (fun ls hl => ?_)
  refine lv_aload_n hx hb dL_isFailing_106 rfl (lv_at hl 6 rfl) ?_
  refine lv_iload_n hx hb dL_isFailing_107 rfl (lv_at hl 8 rfl) ?_
  refine lv_iload_n hx hb dL_isFailing_108 rfl (lv_at hl 9 rfl) ?_
  refine kCallP_i (mc := 0) (ms := 0) (W1 := fun ρ : HS => wQ cI cZ cO x a t b q ρ) (fun _ _ h => h) hP hD hS hA (fun _ => rfl) (va_runV (As := [.int (nI z), .int (nI (m9 + 1))]) (rest := []) ⟨hx, hb, hml, hown, hts⟩ (c_X2_expected l D cI cZ cO cJ x a t b (qK q) (qHo q) (qσ q) (sT ρ) (sE ρ) (sD ρ) (sF ρ) (sS ρ) (sC ρ) (sL ρ) (qLo q) (qSe q) (qEf q) (qgp q) (qgi q) (qam q) (qli q) (qdl q) z m9 H.size (by omega) (by omega) hQ.la hQ.dl hQ.F) (cwV (rm := rmX2_expected) 2 hts gL_isFailing_X2_expected rfl rfl rfl (by decide +kernel) ⟨Nat.le_of_ble_eq_true rfl, Nat.le_of_ble_eq_true rfl⟩) (kPreVW hK hN (pfP hP) (pfD hD) (va_recv hK (pfP hP) (ci := 2) (q0 := 0) rfl rfl)) rfl rfl hl.1 rfl (lv_room (Nat.le_of_ble_eq_true rfl)) dL_isFailing_109 ⟨Nat.le_of_ble_eq_true rfl, Nat.le_of_ble_eq_true rfl⟩) (fun r9 ρ H locs hr9 hP hD hS => ?_)
  have hr9 : r9 = qE q z m9 := hr9
  subst hr9
  refine lv_istore (lv' := [(11, .int (qE q z m9)), (10, .int (nI 1)), (9, .int (-9000002)), (8, .int (sC (qσ q) (sL (qσ q)) f)), (7, .int (qM q z m9)), (6, .int (qCr q z m9)), (5, .int (nI 0)), (0, .ref (x 0)), (1, .int (nI f)), (2, .int (nI z)), (3, .int (nI (m9 + 1))), (4, .ref ap)]) hx hb dL_isFailing_112 hl (by decide) rfl (fun ls hl => ?_)
  refine lv_iload hx hb dL_isFailing_114 (lv_at hl 1 rfl) ?_
  refine lv_if_eq (tgt := 161) hx hb dL_isFailing_116 (by decide) (fun c9 => absurd c9 (by decide +kernel)) (fun _ => ?_)
  refine lv_iload hx hb dL_isFailing_119 (lv_at hl 6 rfl) ?_
  refine lv_if_eq (tgt := 157) hx hb dL_isFailing_121 (by decide) (fun _ => ?_) (fun c9 => absurd (by decide +kernel) c9)
  refine lv_iconst (v := nI 1) hx hb dL_isFailing_157 (by decide +kernel) ?_
  refine lv_goto (tgt := 162) hx hb dL_isFailing_158 (by decide) ?_
  subst hQ9
  subst hA9
  exact kRetH_z ρ hx hb hr hlocks hP hS dL_isFailing_162 rfl (by first | rfl | decide +kernel)

