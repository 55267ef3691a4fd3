/-! ===== the law's small methods ===== -/
theorem i_nlt0 {x : Int32} (h : 0 ≤ x.toInt) : ¬ x < 0 := by rw [Int32.lt_iff_toInt_lt, Int32.toInt_zero]; omega
theorem i_ngt {x : Int32} {n : Nat} (hn : n < 2 ^ 31 := by omega) (h : x.toInt ≤ (n : Int)) : ¬ nI n < x := by rw [Int32.lt_iff_toInt_lt, toI n hn]; omega
theorem i_nltm {x : Int32} (h : -20000 ≤ x.toInt) : ¬ x < (-20000) := by rw [Int32.lt_iff_toInt_lt, e20000.1]; omega
theorem neg_bad {k hi : Nat} (hk : k < 30) (hh : hi < 2 ^ 31) : ¬ inR ((-1) - nI k) (nI 0) (nI hi) := by
  rintro ⟨h, -⟩
  apply h
  have e1 : ((-1 : Int32)).toInt = -1 := by decide +kernel
  rw [Int32.lt_iff_toInt_lt, e100.1, fb_subI (by rw [e1, toI k (by omega)]; omega) (by rw [e1, toI k (by omega)]; omega), e1, toI k (by omega)]
  omega
theorem neg_bad1 {k : Nat} (hk : k < 30) : ¬ inR (nI 0 - nI k) (nI 1) (nI 300) := by
  rintro ⟨h, -⟩
  apply h
  rw [Int32.lt_iff_toInt_lt, nI1, fb_subI (by rw [e100.1, toI k (by omega)]; omega) (by rw [e100.1, toI k (by omega)]; omega), e100.1, toI k (by omega)]
  omega
theorem hi_bad {a hi : Nat} (h : hi < a) (ha : a < 2 ^ 31) : ¬ inR (nI a) (nI 0) (nI hi) := fun c => nI_ge h ha c.2
def aZ (q : QS) : Nat → Int64
  | 0 => (nI (qK q)).toInt64
  | n + 1 => (1000003) * aZ q n + (sT (qσ q) n).toInt64 + (70001) * (sD (qσ q) n).toInt64 + (31) * (sE (qσ q) n).toInt64 + (257) * (qHo q n).toInt64
def aF (q : QS) : Nat → Int64
  | 0 => aZ q 6
  | n + 1 => (1009) * aF q n + (101) * (sC (qσ q) (sL (qσ q)) n).toInt64 + (sS (qσ q) n).toInt64
abbrev rmL_all : Room := { frames := 3, cells := 0, slots := 0, locals := 64 }
set_option maxHeartbeats 4000000 in
set_option maxRecDepth 100000 in
theorem c_L_all (l : Launch) (D : va_G) (cI cZ cO cJ : ClassId) (x a t b : Nat → Nat) (q : QS) (ρ : HS) (sz : Nat) (hQ : QOK q) : kMHl l yL_all wsL_all rmL_all D (kT cI cZ cO cJ) [.ref (x 0)] (wQ cI cZ cO x a t b q ρ) (fun u : HS => wQ cI cZ cO x a t b q u) 0 0 sz (aF q 8) := by
  refine kEnterQ (cc := cL_all) (maxL := 4) (ret := some .long) (by decide +kernel) rfl (Nat.le_of_ble_eq_true rfl) ?_
  intro p e s m below meth c args hx hb hr hml hts hown hlocks hK hN A hA9 Q hQ9 hP hD hsz hS hA hX hC ls hl
  have hl : lv_has ls 4 [(0, .ref (x 0))] := hl
  obtain ⟨H, hH9⟩ : ∃ H, H = s.heap := ⟨_, rfl⟩
  rw [← hH9] at hP ⊢
  have hS : va_S A s.heap H [] := by rw [hH9]; exact va_S.rf
  have hlocs : ∃ locs : List Loc, locs = [] := ⟨_, rfl⟩
  obtain ⟨locs, hlocs⟩ := hlocs
  rw [← hlocs] at hS ⊢
  have hP : va_P D vwCl (wQ cI cZ cO x a t b q ρ ++ []) H := by rw [List.append_nil]; exact hP
  have hD : va_D A (wQ cI cZ cO x a t b q ρ ++ []) := by rw [List.append_nil]; exact hD
  refine lv_aload_n hx hb dL_all_0 rfl (lv_at hl 0 rfl) ?_
  refine kCallP_i (mc := 0) (ms := 0) (W1 := fun _ : Unit => wQ cI cZ cO x a t b q ρ) (fun _ _ h => h) hP hD hS hA (fun _ => rfl) (va_runV (As := []) (rest := []) ⟨hx, hb, hml, hown, hts⟩ (c_X2_clock l D cI cZ cO cJ x a t b (qK q) (qHo q) (sT (qσ q)) (sE (qσ q)) (sD (qσ q)) (sF (qσ q)) (sS (qσ q)) (sC (qσ q)) (sL (qσ q)) (sT ρ) (sE ρ) (sD ρ) (sF ρ) (sS ρ) (sC ρ) (sL ρ) (qLo q) (qSe q) (qEf q) (qgp q) (qgi q) (qam q) (qli q) (qdl q) H.size ) (cwV (rm := rmX2_clock) 0 hts gL_all_X2_clock rfl rfl rfl (by decide +kernel) ⟨Nat.le_of_ble_eq_true rfl, Nat.le_of_ble_eq_true rfl⟩) (kPreVW hK hN (pfP hP) (pfD hD) (va_recv hK (pfP hP) (ci := 2) (q0 := 0) rfl rfl)) rfl rfl hl.1 rfl (lv_room (Nat.le_of_ble_eq_true rfl)) dL_all_1 ⟨Nat.zero_le _, Nat.zero_le _⟩) (fun r9 u9 H locs hr9 hP hD hS => ?_)
  have hr9 : r9 = nI (qK q) := hr9
  subst hr9
  refine lv_i2l hx hb dL_all_4 rfl ?_
  refine lv_lstore_n (lv' := [(1, .long ((nI (qK q)).toInt64)), (0, .ref (x 0))]) hx hb dL_all_5 rfl hl (by decide) rfl (fun ls hl => ?_)
  refine lv_iconst (v := nI 0) hx hb dL_all_6 (by decide +kernel) ?_
  refine lv_istore_n (lv' := [(3, .int (nI 0)), (1, .long ((nI (qK q)).toInt64)), (0, .ref (x 0))]) hx hb dL_all_7 rfl hl (by decide) rfl (fun ls hl => ?_)
  have lp : ∀ (n z : Nat), z + n = 6 → ∀ ρ : HS, ∀ (H : Heap) (locs : List Loc), va_P D vwCl (wQ cI cZ cO x a t b q ρ ++ []) H → va_D A (wQ cI cZ cO x a t b q ρ ++ []) → va_S A s.heap H locs → ∀ ls : Array Slot, lv_has ls 4 [(0, .ref (x 0)), (1, .long (aZ q z)), (3, .int (nI z))] → W p l e rmL_all s m args below meth c H locs 0 0 Q (F0 m 8 ls []) := by
    intro n
    induction n with
    | zero =>
      intro z hz9 ρ H locs hP hD hS ls hl
      have hz9 : z = 6 := by omega
      subst hz9
      refine lv_iload_n hx hb dL_all_8 rfl (lv_at hl 2 rfl) ?_
      refine lv_bipush (v := nI 6) hx hb dL_all_9 (by decide +kernel) ?_
      refine lv_icmp_ge (tgt := 66) hx hb dL_all_11 (by decide) (fun _ => ?_) (fun c9 => absurd (nI_le (Nat.le_refl 6) (by decide)) c9)
      refine lv_iconst (v := nI 0) hx hb dL_all_66 (by decide +kernel) ?_
      refine lv_istore_n (lv' := [(3, .int (nI 0)), (0, .ref (x 0)), (1, .long (aZ q 6))]) hx hb dL_all_67 rfl hl (by decide) rfl (fun ls hl => ?_)
      have lq : ∀ (n2 z2 : Nat), z2 + n2 = 8 → ∀ ρ : HS, ∀ (H : Heap) (locs : List Loc), va_P D vwCl (wQ cI cZ cO x a t b q ρ ++ []) H → va_D A (wQ cI cZ cO x a t b q ρ ++ []) → va_S A s.heap H locs → ∀ ls : Array Slot, lv_has ls 4 [(0, .ref (x 0)), (1, .long (aF q z2)), (3, .int (nI z2))] → W p l e rmL_all s m args below meth c H locs 0 0 Q (F0 m 68 ls []) := by
        intro n2
        induction n2 with
        | zero =>
          intro z2 hz9 ρ H locs hP hD hS ls hl
          have hz9 : z2 = 8 := by omega
          subst hz9
          refine lv_iload_n hx hb dL_all_68 rfl (lv_at hl 2 rfl) ?_
          refine lv_bipush (v := nI 8) hx hb dL_all_69 (by decide +kernel) ?_
          refine lv_icmp_ge (tgt := 104) hx hb dL_all_71 (by decide) (fun _ => ?_) (fun c9 => absurd (nI_le (Nat.le_refl 8) (by decide)) c9)
          refine lv_lload_n hx hb dL_all_104 rfl (lv_at hl 1 rfl) ?_
          subst hQ9
          subst hA9
          rw [List.append_nil] at hP
          exact kRetH_l ρ hx hb hr hlocks hP hS dL_all_105 rfl
        | succ n2 ih2 =>
          intro z2 hz9 ρ H locs hP hD hS ls hl
          have hzb : z2 < 8 := by omega
          refine lv_iload_n hx hb dL_all_68 rfl (lv_at hl 2 rfl) ?_
          refine lv_bipush (v := nI 8) hx hb dL_all_69 (by decide +kernel) ?_
          refine lv_icmp_ge (tgt := 104) hx hb dL_all_71 (by decide) (fun c9 => absurd c9 (nI_ge hzb (by decide))) (fun _ => ?_)
          refine lv_ldc2 hx hb hown (hts (.constantLong RL 87 (1009)) (by decide +kernel)) dL_all_74 ?_
          refine lv_lload_n hx hb dL_all_77 rfl (lv_at hl 1 rfl) ?_
          refine lv_lmul hx hb dL_all_78 ?_
          refine lv_ldc2 hx hb hown (hts (.constantLong RL 89 (101)) (by decide +kernel)) dL_all_79 ?_
          refine lv_aload_n hx hb dL_all_82 rfl (lv_at hl 0 rfl) ?_
          refine lv_iload_n hx hb dL_all_83 rfl (lv_at hl 2 rfl) ?_
          refine kCallP_i (mc := 0) (ms := 0) (W1 := fun _ : Unit => wQ cI cZ cO x a t b q ρ) (fun _ _ h => h) hP hD hS hA (fun _ => rfl) (va_runV (As := [.int (nI z2)]) (rest := [.long (101), .long ((1009) * (aF q z2))]) ⟨hx, hb, hml, hown, hts⟩ (c_X2_command l D cI cZ cO cJ x a t b (qK q) (qHo q) (sT (qσ q)) (sE (qσ q)) (sD (qσ q)) (sF (qσ q)) (sS (qσ q)) (sC (qσ q)) (sL (qσ q)) (sT ρ) (sE ρ) (sD ρ) (sF ρ) (sS ρ) (sC ρ) (sL ρ) (qLo q) (qSe q) (qEf q) (qgp q) (qgi q) (qam q) (qli q) (qdl q) z2 H.size (by omega) hQ.la) (cwV (rm := rmX2_command) 1 hts gL_all_X2_command rfl rfl rfl (by decide +kernel) ⟨Nat.le_of_ble_eq_true rfl, Nat.le_of_ble_eq_true rfl⟩) (kPreVW hK hN (pfP hP) (pfD hD) (va_recv hK (pfP hP) (ci := 2) (q0 := 0) rfl rfl)) rfl rfl hl.1 rfl (lv_room (Nat.le_of_ble_eq_true rfl)) dL_all_84 ⟨Nat.zero_le _, Nat.zero_le _⟩) (fun r9 u9 H locs hr9 hP hD hS => ?_)
          have hr9 : r9 = sC (qσ q) (sL (qσ q)) z2 := hr9
          subst hr9
          refine lv_i2l hx hb dL_all_87 rfl ?_
          refine lv_lmul hx hb dL_all_88 ?_
          refine lv_ladd hx hb dL_all_89 ?_
          refine lv_aload_n hx hb dL_all_90 rfl (lv_at hl 0 rfl) ?_
          refine lv_iload_n hx hb dL_all_91 rfl (lv_at hl 2 rfl) ?_
          refine kCallP_i (mc := 0) (ms := 0) (W1 := fun _ : Unit => wQ cI cZ cO x a t b q ρ) (fun _ _ h => h) hP hD hS hA (fun _ => rfl) (va_runV (As := [.int (nI z2)]) (rest := [.long (((1009) * (aF q z2)) + ((101) * ((sC (qσ q) (sL (qσ q)) z2).toInt64)))]) ⟨hx, hb, hml, hown, hts⟩ (c_X2_speed l D cI cZ cO cJ x a t b (qK q) (qHo q) (sT (qσ q)) (sE (qσ q)) (sD (qσ q)) (sF (qσ q)) (sS (qσ q)) (sC (qσ q)) (sL (qσ q)) (sT ρ) (sE ρ) (sD ρ) (sF ρ) (sS ρ) (sC ρ) (sL ρ) (qLo q) (qSe q) (qEf q) (qgp q) (qgi q) (qam q) (qli q) (qdl q) z2 H.size (by omega)) (cwV (rm := rmX2_speed) 1 hts gL_all_X2_speed rfl rfl rfl (by decide +kernel) ⟨Nat.le_of_ble_eq_true rfl, Nat.le_of_ble_eq_true rfl⟩) (kPreVW hK hN (pfP hP) (pfD hD) (va_recv hK (pfP hP) (ci := 2) (q0 := 0) rfl rfl)) rfl rfl hl.1 rfl (lv_room (Nat.le_of_ble_eq_true rfl)) dL_all_92 ⟨Nat.zero_le _, Nat.zero_le _⟩) (fun r9 u9 H locs hr9 hP hD hS => ?_)
          have hr9 : r9 = sS (qσ q) z2 := hr9
          subst hr9
          refine lv_i2l hx hb dL_all_95 rfl ?_
          refine lv_ladd hx hb dL_all_96 ?_
          refine lv_lstore_n (lv' := [(1, .long ((((1009) * (aF q z2)) + ((101) * ((sC (qσ q) (sL (qσ q)) z2).toInt64))) + ((sS (qσ q) z2).toInt64))), (0, .ref (x 0)), (3, .int (nI z2))]) hx hb dL_all_97 rfl hl (by decide) rfl (fun ls hl => ?_)
          refine lv_iinc (v := nI (z2 + 1)) (lv' := [(3, .int (nI (z2 + 1))), (1, .long ((((1009) * (aF q z2)) + ((101) * ((sC (qσ q) (sL (qσ q)) z2).toInt64))) + ((sS (qσ q) z2).toInt64))), (0, .ref (x 0))]) hx hb dL_all_98 hl (k := 2) rfl (k_inc _) (by decide) rfl (fun ls hl => ?_)
          refine lv_goto (tgt := 68) hx hb dL_all_101 (by decide) ?_
          exact ih2 (z2 + 1) (by omega) ρ H locs hP hD hS ls (lv_sub hl [2, 1, 0] rfl)
      exact lq 8 0 rfl ρ H locs hP hD hS ls (lv_sub hl [1, 2, 0] rfl)
    | succ n ih =>
      intro z hz9 ρ H locs hP hD hS ls hl
      have hzb : z < 6 := by omega
      refine lv_iload_n hx hb dL_all_8 rfl (lv_at hl 2 rfl) ?_
      refine lv_bipush (v := nI 6) hx hb dL_all_9 (by decide +kernel) ?_
      refine lv_icmp_ge (tgt := 66) hx hb dL_all_11 (by decide) (fun c9 => absurd c9 (nI_ge hzb (by decide))) (fun _ => ?_)
      refine lv_ldc2 hx hb hown (hts (.constantLong RL 79 (1000003)) (by decide +kernel)) dL_all_14 ?_
      refine lv_lload_n hx hb dL_all_17 rfl (lv_at hl 1 rfl) ?_
      refine lv_lmul hx hb dL_all_18 ?_
      refine lv_aload_n hx hb dL_all_19 rfl (lv_at hl 0 rfl) ?_
      refine lv_iload_n hx hb dL_all_20 rfl (lv_at hl 2 rfl) ?_
      refine kCallP_i (mc := 0) (ms := 0) (W1 := fun _ : Unit => wQ cI cZ cO x a t b q ρ) (fun _ _ h => h) hP hD hS hA (fun _ => rfl) (va_runV (As := [.int (nI z)]) (rest := [.long ((1000003) * (aZ q z))]) ⟨hx, hb, hml, hown, hts⟩ (c_X2_temperature l D cI cZ cO cJ x a t b (qK q) (qHo q) (sT (qσ q)) (sE (qσ q)) (sD (qσ q)) (sF (qσ q)) (sS (qσ q)) (sC (qσ q)) (sL (qσ q)) (sT ρ) (sE ρ) (sD ρ) (sF ρ) (sS ρ) (sC ρ) (sL ρ) (qLo q) (qSe q) (qEf q) (qgp q) (qgi q) (qam q) (qli q) (qdl q) z H.size (by omega)) (cwV (rm := rmX2_temperature) 1 hts gL_all_X2_temperature rfl rfl rfl (by decide +kernel) ⟨Nat.le_of_ble_eq_true rfl, Nat.le_of_ble_eq_true rfl⟩) (kPreVW hK hN (pfP hP) (pfD hD) (va_recv hK (pfP hP) (ci := 2) (q0 := 0) rfl rfl)) rfl rfl hl.1 rfl (lv_room (Nat.le_of_ble_eq_true rfl)) dL_all_21 ⟨Nat.zero_le _, Nat.zero_le _⟩) (fun r9 u9 H locs hr9 hP hD hS => ?_)
      have hr9 : r9 = sT (qσ q) z := hr9
      subst hr9
      refine lv_i2l hx hb dL_all_24 rfl ?_
      refine lv_ladd hx hb dL_all_25 ?_
      refine lv_ldc2 hx hb hown (hts (.constantLong RL 81 (70001)) (by decide +kernel)) dL_all_26 ?_
      refine lv_aload_n hx hb dL_all_29 rfl (lv_at hl 0 rfl) ?_
      refine lv_iload_n hx hb dL_all_30 rfl (lv_at hl 2 rfl) ?_
      refine kCallP_i (mc := 0) (ms := 0) (W1 := fun _ : Unit => wQ cI cZ cO x a t b q ρ) (fun _ _ h => h) hP hD hS hA (fun _ => rfl) (va_runV (As := [.int (nI z)]) (rest := [.long (70001), .long (((1000003) * (aZ q z)) + ((sT (qσ q) z).toInt64))]) ⟨hx, hb, hml, hown, hts⟩ (c_X2_demand l D cI cZ cO cJ x a t b (qK q) (qHo q) (sT (qσ q)) (sE (qσ q)) (sD (qσ q)) (sF (qσ q)) (sS (qσ q)) (sC (qσ q)) (sL (qσ q)) (sT ρ) (sE ρ) (sD ρ) (sF ρ) (sS ρ) (sC ρ) (sL ρ) (qLo q) (qSe q) (qEf q) (qgp q) (qgi q) (qam q) (qli q) (qdl q) z H.size (by omega)) (cwV (rm := rmX2_demand) 1 hts gL_all_X2_demand rfl rfl rfl (by decide +kernel) ⟨Nat.le_of_ble_eq_true rfl, Nat.le_of_ble_eq_true rfl⟩) (kPreVW hK hN (pfP hP) (pfD hD) (va_recv hK (pfP hP) (ci := 2) (q0 := 0) rfl rfl)) rfl rfl hl.1 rfl (lv_room (Nat.le_of_ble_eq_true rfl)) dL_all_31 ⟨Nat.zero_le _, Nat.zero_le _⟩) (fun r9 u9 H locs hr9 hP hD hS => ?_)
      have hr9 : r9 = sD (qσ q) z := hr9
      subst hr9
      refine lv_i2l hx hb dL_all_34 rfl ?_
      refine lv_lmul hx hb dL_all_35 ?_
      refine lv_ladd hx hb dL_all_36 ?_
      refine lv_ldc2 hx hb hown (hts (.constantLong RL 83 (31)) (by decide +kernel)) dL_all_37 ?_
      refine lv_aload_n hx hb dL_all_40 rfl (lv_at hl 0 rfl) ?_
      refine lv_iload_n hx hb dL_all_41 rfl (lv_at hl 2 rfl) ?_
      refine kCallP_i (mc := 0) (ms := 0) (W1 := fun _ : Unit => wQ cI cZ cO x a t b q ρ) (fun _ _ h => h) hP hD hS hA (fun _ => rfl) (va_runV (As := [.int (nI z)]) (rest := [.long (31), .long ((((1000003) * (aZ q z)) + ((sT (qσ q) z).toInt64)) + ((70001) * ((sD (qσ q) z).toInt64)))]) ⟨hx, hb, hml, hown, hts⟩ (c_X2_errors l D cI cZ cO cJ x a t b (qK q) (qHo q) (sT (qσ q)) (sE (qσ q)) (sD (qσ q)) (sF (qσ q)) (sS (qσ q)) (sC (qσ q)) (sL (qσ q)) (sT ρ) (sE ρ) (sD ρ) (sF ρ) (sS ρ) (sC ρ) (sL ρ) (qLo q) (qSe q) (qEf q) (qgp q) (qgi q) (qam q) (qli q) (qdl q) z H.size (by omega)) (cwV (rm := rmX2_errors) 1 hts gL_all_X2_errors rfl rfl rfl (by decide +kernel) ⟨Nat.le_of_ble_eq_true rfl, Nat.le_of_ble_eq_true rfl⟩) (kPreVW hK hN (pfP hP) (pfD hD) (va_recv hK (pfP hP) (ci := 2) (q0 := 0) rfl rfl)) rfl rfl hl.1 rfl (lv_room (Nat.le_of_ble_eq_true rfl)) dL_all_42 ⟨Nat.zero_le _, Nat.zero_le _⟩) (fun r9 u9 H locs hr9 hP hD hS => ?_)
      have hr9 : r9 = sE (qσ q) z := hr9
      subst hr9
      refine lv_i2l hx hb dL_all_45 rfl ?_
      refine lv_lmul hx hb dL_all_46 ?_
      refine lv_ladd hx hb dL_all_47 ?_
      refine lv_ldc2 hx hb hown (hts (.constantLong RL 85 (257)) (by decide +kernel)) dL_all_48 ?_
      refine lv_aload_n hx hb dL_all_51 rfl (lv_at hl 0 rfl) ?_
      refine lv_iload_n hx hb dL_all_52 rfl (lv_at hl 2 rfl) ?_
      refine kCallP_i (mc := 0) (ms := 0) (W1 := fun _ : Unit => wQ cI cZ cO x a t b q ρ) (fun _ _ h => h) hP hD hS hA (fun _ => rfl) (va_runV (As := [.int (nI z)]) (rest := [.long (257), .long (((((1000003) * (aZ q z)) + ((sT (qσ q) z).toInt64)) + ((70001) * ((sD (qσ q) z).toInt64))) + ((31) * ((sE (qσ q) z).toInt64)))]) ⟨hx, hb, hml, hown, hts⟩ (c_X2_hotMinutes l D cI cZ cO cJ x a t b (qK q) (qHo q) (sT (qσ q)) (sE (qσ q)) (sD (qσ q)) (sF (qσ q)) (sS (qσ q)) (sC (qσ q)) (sL (qσ q)) (sT ρ) (sE ρ) (sD ρ) (sF ρ) (sS ρ) (sC ρ) (sL ρ) (qLo q) (qSe q) (qEf q) (qgp q) (qgi q) (qam q) (qli q) (qdl q) z H.size (by omega)) (cwV (rm := rmX2_hotMinutes) 1 hts gL_all_X2_hotMinutes rfl rfl rfl (by decide +kernel) ⟨Nat.le_of_ble_eq_true rfl, Nat.le_of_ble_eq_true rfl⟩) (kPreVW hK hN (pfP hP) (pfD hD) (va_recv hK (pfP hP) (ci := 2) (q0 := 0) rfl rfl)) rfl rfl hl.1 rfl (lv_room (Nat.le_of_ble_eq_true rfl)) dL_all_53 ⟨Nat.zero_le _, Nat.zero_le _⟩) (fun r9 u9 H locs hr9 hP hD hS => ?_)
      have hr9 : r9 = qHo q z := hr9
      subst hr9
      refine lv_i2l hx hb dL_all_56 rfl ?_
      refine lv_lmul hx hb dL_all_57 ?_
      refine lv_ladd hx hb dL_all_58 ?_
      refine lv_lstore_n (lv' := [(1, .long ((((((1000003) * (aZ q z)) + ((sT (qσ q) z).toInt64)) + ((70001) * ((sD (qσ q) z).toInt64))) + ((31) * ((sE (qσ q) z).toInt64))) + ((257) * ((qHo q z).toInt64)))), (0, .ref (x 0)), (3, .int (nI z))]) hx hb dL_all_59 rfl hl (by decide) rfl (fun ls hl => ?_)
      refine lv_iinc (v := nI (z + 1)) (lv' := [(3, .int (nI (z + 1))), (1, .long ((((((1000003) * (aZ q z)) + ((sT (qσ q) z).toInt64)) + ((70001) * ((sD (qσ q) z).toInt64))) + ((31) * ((sE (qσ q) z).toInt64))) + ((257) * ((qHo q z).toInt64)))), (0, .ref (x 0))]) hx hb dL_all_60 hl (k := 2) rfl (k_inc _) (by decide) rfl (fun ls hl => ?_)
      refine lv_goto (tgt := 8) hx hb dL_all_63 (by decide) ?_
      exact ih (z + 1) (by omega) ρ H locs hP hD hS ls (lv_sub hl [2, 1, 0] rfl)
  exact lp 6 0 rfl ρ H locs hP hD hS ls (lv_sub hl [2, 1, 0] rfl)

abbrev rmL_running : Room := { frames := 0, cells := 0, slots := 0, locals := 0 }
set_option maxHeartbeats 4000000 in
set_option maxRecDepth 100000 in
theorem c_L_running (l : Launch) (D : va_G) (cI cZ cO cJ : ClassId) (x a t b : Nat → Nat) (q : QS) (ρ : HS) (ap : Nat) (pf : Nat → Int32) (B : Nat) (sz : Nat) (hQ : QOK q) (hp : PR pf q B) : kMH l yL_running wsL_running rmL_running D (kT cI cZ cO cJ) [.ref ap] (wQ cI cZ cO x a t b q ρ ++ [(ap, .inl (cI, 6, .inl pf))]) (fun u : HS => wQ cI cZ cO x a t b q u ++ [(ap, .inl (cI, 6, .inl pf))]) 0 0 sz (mCnt (sF (qσ q)) 8) := by
  refine kEnterQ (cc := cL_running) (maxL := 3) (ret := some .int) (by decide +kernel) rfl (Nat.le_of_ble_eq_true rfl) ?_
  intro p e s m below meth c args hx hb hr hml hts hown hlocks hK hN A hA9 Q hQ9 hP hD hsz hS hA hX hC ls hl
  have hl : lv_has ls 3 [(0, .ref ap)] := hl
  obtain ⟨H, hH9⟩ : ∃ H, H = s.heap := ⟨_, rfl⟩
  rw [← hH9] at hP ⊢
  have hS : va_S A s.heap H [] := by rw [hH9]; exact va_S.rf
  have hlocs : ∃ locs : List Loc, locs = [] := ⟨_, rfl⟩
  obtain ⟨locs, hlocs⟩ := hlocs
  rw [← hlocs] at hS ⊢
  refine lv_bipush (v := nI 8) hx hb dL_running_0 (by decide +kernel) ?_
  refine lv_istore_n (lv' := [(1, .int (nI 8)), (0, .ref ap)]) hx hb dL_running_2 rfl hl (by decide) rfl (fun ls hl => ?_)
  refine lv_iconst (v := nI 0) hx hb dL_running_3 (by decide +kernel) ?_
  refine lv_istore_n (lv' := [(2, .int (nI 0)), (1, .int (nI 8)), (0, .ref ap)]) hx hb dL_running_4 rfl hl (by decide) rfl (fun ls hl => ?_)
  have lp : ∀ (n z : Nat), z + n = 8 → ∀ ρ : HS, ∀ (H : Heap) (locs : List Loc), va_P D vwCl (wQ cI cZ cO x a t b q ρ ++ [(ap, .inl (cI, 6, .inl pf))]) H → va_D A (wQ cI cZ cO x a t b q ρ ++ [(ap, .inl (cI, 6, .inl pf))]) → va_S A s.heap H locs → ∀ ls : Array Slot, lv_has ls 3 [(0, .ref ap), (1, .int (rn (sF (qσ q)) z)), (2, .int (nI z))] → W p l e rmL_running s m args below meth c H locs 0 0 Q (F0 m 5 ls []) := by
    intro n
    induction n with
    | zero =>
      intro z hz9 ρ H locs hP hD hS ls hl
      have hz9 : z = 8 := by omega
      subst hz9
      refine lv_iload_n hx hb dL_running_5 rfl (lv_at hl 2 rfl) ?_
      refine lv_bipush (v := nI 8) hx hb dL_running_6 (by decide +kernel) ?_
      refine lv_icmp_ge (tgt := 27) hx hb dL_running_8 (by decide) (fun _ => ?_) (fun c9 => absurd (nI_le (Nat.le_refl 8) (by decide)) c9)
      refine lv_iload_n hx hb dL_running_27 rfl (lv_at hl 1 rfl) ?_
      subst hQ9
      subst hA9
      exact kRetH_i ρ hx hb hr hlocks hP hS dL_running_28 (rn_8 hQ.F)
    | succ n ih =>
      intro z hz9 ρ H locs hP hD hS ls hl
      have hzb : z < 8 := by omega
      refine lv_iload_n hx hb dL_running_5 rfl (lv_at hl 2 rfl) ?_
      refine lv_bipush (v := nI 8) hx hb dL_running_6 (by decide +kernel) ?_
      refine lv_icmp_ge (tgt := 27) hx hb dL_running_8 (by decide) (fun c9 => absurd c9 (nI_ge hzb (by decide))) (fun _ => ?_)
      refine lv_iload_n hx hb dL_running_11 rfl (lv_at hl 1 rfl) ?_
      refine lv_aload_n hx hb dL_running_12 rfl (lv_at hl 0 rfl) ?_
      refine lv_iconst (v := nI 5) hx hb dL_running_13 (by decide +kernel) ?_
      refine k_ialdT hx hb hK hP 0 0 rfl rfl (i := 5) (by decide) (by decide) dL_running_14 ?_
      refine lv_iload_n hx hb dL_running_15 rfl (lv_at hl 2 rfl) ?_
      refine lv_ishr hx hb dL_running_16 ?_
      refine lv_iconst (v := nI 1) hx hb dL_running_17 (by decide +kernel) ?_
      refine lv_iand hx hb dL_running_18 ?_
      refine k_as (y := sF (qσ q) z) (hp.bit (by omega)) ?_
      refine lv_isub hx hb dL_running_19 ?_
      refine lv_istore_n (lv' := [(1, .int ((rn (sF (qσ q)) z) - (sF (qσ q) z))), (0, .ref ap), (2, .int (nI z))]) hx hb dL_running_20 rfl hl (by decide) rfl (fun ls hl => ?_)
      refine lv_iinc (v := nI (z + 1)) (lv' := [(2, .int (nI (z + 1))), (1, .int ((rn (sF (qσ q)) z) - (sF (qσ q) z))), (0, .ref ap)]) hx hb dL_running_21 hl (k := 2) rfl (k_inc _) (by decide) rfl (fun ls hl => ?_)
      refine lv_goto (tgt := 5) hx hb dL_running_24 (by decide) ?_
      exact ih (z + 1) (by omega) ρ H locs hP hD hS ls (lv_sub hl [2, 1, 0] rfl)
  exact lp 8 0 rfl ρ H locs hP hD hS ls (lv_sub hl [2, 1, 0] rfl)

abbrev rmL_isFan : Room := { frames := 3, cells := 0, slots := 0, locals := 64 }
set_option maxHeartbeats 4000000 in
set_option maxRecDepth 100000 in
theorem c_L_isFan (l : Launch) (D : va_G) (cI cZ cO cJ : ClassId) (x a t b : Nat → Nat) (q : QS) (ρ : HS) (ap : Nat) (pf : Nat → Int32) (B : Nat) (f : Nat) (sz : Nat) (hQ : QOK q) (hp : PR pf q B) (hf : f < 8) : kMH l yL_isFan wsL_isFan rmL_isFan D (kT cI cZ cO cJ) [.ref (x 0), .ref ap, .int (nI f)] (wQ cI cZ cO x a t b q ρ ++ [(ap, .inl (cI, 6, .inl pf))]) (fun u : HS => wQ cI cZ cO x a t b q u ++ [(ap, .inl (cI, 6, .inl pf))]) 0 0 sz (nI 1) := by
  refine kEnterQ (cc := cL_isFan) (maxL := 3) (ret := some .boolean) (by decide +kernel) rfl (Nat.le_of_ble_eq_true rfl) ?_
  intro p e s m below meth c args hx hb hr hml hts hown hlocks hK hN A hA9 Q hQ9 hP hD hsz hS hA hX hC ls hl
  have hl : lv_has ls 3 [(0, .ref (x 0)), (1, .ref ap), (2, .int (nI f))] := hl
  obtain ⟨H, hH9⟩ : ∃ H, H = s.heap := ⟨_, rfl⟩
  rw [← hH9] at hP ⊢
  have hS : va_S A s.heap H [] := by rw [hH9]; exact va_S.rf
  have hlocs : ∃ locs : List Loc, locs = [] := ⟨_, rfl⟩
  obtain ⟨locs, hlocs⟩ := hlocs
  rw [← hlocs] at hS ⊢
  have hC9 := hQ.2.1.2.2.2.2.2.1 (sL (qσ q)) f hQ.la hf
  have hS9 := hQ.2.1.2.2.2.2.1 f hf
  refine lv_aload_n hx hb dL_isFan_0 rfl (lv_at hl 0 rfl) ?_
  refine lv_iload_n hx hb dL_isFan_1 rfl (lv_at hl 2 rfl) ?_
  refine kCallP_i (mc := 0) (ms := 0) (W1 := fun _ : Unit => wQ cI cZ cO x a t b q ρ) (fun _ _ h => h) hP hD hS hA (fun _ => rfl) (va_runV (As := [.int (nI f)]) (rest := []) ⟨hx, hb, hml, hown, hts⟩ (c_X2_command l D cI cZ cO cJ x a t b (qK q) (qHo q) (sT (qσ q)) (sE (qσ q)) (sD (qσ q)) (sF (qσ q)) (sS (qσ q)) (sC (qσ q)) (sL (qσ q)) (sT ρ) (sE ρ) (sD ρ) (sF ρ) (sS ρ) (sC ρ) (sL ρ) (qLo q) (qSe q) (qEf q) (qgp q) (qgi q) (qam q) (qli q) (qdl q) f H.size (by omega) hQ.la) (cwV (rm := rmX2_command) 1 hts gL_isFan_X2_command rfl rfl rfl (by decide +kernel) ⟨Nat.le_of_ble_eq_true rfl, Nat.le_of_ble_eq_true rfl⟩) (kPreVW hK hN (pfP hP) (pfD hD) (va_recv hK (pfP hP) (ci := 2) (q0 := 0) rfl rfl)) rfl rfl hl.1 rfl (lv_room (Nat.le_of_ble_eq_true rfl)) dL_isFan_2 ⟨Nat.zero_le _, Nat.zero_le _⟩) (fun r9 u9 H locs hr9 hP hD hS => ?_)
  have hr9 : r9 = sC (qσ q) (sL (qσ q)) f := hr9
  subst hr9
  refine lv_if_lt (tgt := 58) hx hb dL_isFan_5 (by decide) (fun c9 => absurd c9 (i_nlt0 hC9.1)) (fun _ => ?_)
  refine lv_aload_n hx hb dL_isFan_8 rfl (lv_at hl 0 rfl) ?_
  refine lv_iload_n hx hb dL_isFan_9 rfl (lv_at hl 2 rfl) ?_
  refine kCallP_i (mc := 0) (ms := 0) (W1 := fun _ : Unit => wQ cI cZ cO x a t b q ρ) (fun _ _ h => h) hP hD hS hA (fun _ => rfl) (va_runV (As := [.int (nI f)]) (rest := []) ⟨hx, hb, hml, hown, hts⟩ (c_X2_command l D cI cZ cO cJ x a t b (qK q) (qHo q) (sT (qσ q)) (sE (qσ q)) (sD (qσ q)) (sF (qσ q)) (sS (qσ q)) (sC (qσ q)) (sL (qσ q)) (sT ρ) (sE ρ) (sD ρ) (sF ρ) (sS ρ) (sC ρ) (sL ρ) (qLo q) (qSe q) (qEf q) (qgp q) (qgi q) (qam q) (qli q) (qdl q) f H.size (by omega) hQ.la) (cwV (rm := rmX2_command) 1 hts gL_isFan_X2_command rfl rfl rfl (by decide +kernel) ⟨Nat.le_of_ble_eq_true rfl, Nat.le_of_ble_eq_true rfl⟩) (kPreVW hK hN (pfP hP) (pfD hD) (va_recv hK (pfP hP) (ci := 2) (q0 := 0) rfl rfl)) rfl rfl hl.1 rfl (lv_room (Nat.le_of_ble_eq_true rfl)) dL_isFan_10 ⟨Nat.zero_le _, Nat.zero_le _⟩) (fun r9 u9 H locs hr9 hP hD hS => ?_)
  have hr9 : r9 = sC (qσ q) (sL (qσ q)) f := hr9
  subst hr9
  refine lv_bipush (v := nI 100) hx hb dL_isFan_13 (by decide +kernel) ?_
  refine lv_icmp_gt (tgt := 58) hx hb dL_isFan_15 (by decide) (fun c9 => absurd c9 (i_ngt (h := hC9.2))) (fun _ => ?_)
  refine lv_aload_n hx hb dL_isFan_18 rfl (lv_at hl 0 rfl) ?_
  refine lv_iload_n hx hb dL_isFan_19 rfl (lv_at hl 2 rfl) ?_
  refine kCallP_i (mc := 0) (ms := 0) (W1 := fun _ : Unit => wQ cI cZ cO x a t b q ρ) (fun _ _ h => h) hP hD hS hA (fun _ => rfl) (va_runV (As := [.int (nI f)]) (rest := []) ⟨hx, hb, hml, hown, hts⟩ (c_X2_speed l D cI cZ cO cJ x a t b (qK q) (qHo q) (sT (qσ q)) (sE (qσ q)) (sD (qσ q)) (sF (qσ q)) (sS (qσ q)) (sC (qσ q)) (sL (qσ q)) (sT ρ) (sE ρ) (sD ρ) (sF ρ) (sS ρ) (sC ρ) (sL ρ) (qLo q) (qSe q) (qEf q) (qgp q) (qgi q) (qam q) (qli q) (qdl q) f H.size (by omega)) (cwV (rm := rmX2_speed) 1 hts gL_isFan_X2_speed rfl rfl rfl (by decide +kernel) ⟨Nat.le_of_ble_eq_true rfl, Nat.le_of_ble_eq_true rfl⟩) (kPreVW hK hN (pfP hP) (pfD hD) (va_recv hK (pfP hP) (ci := 2) (q0 := 0) rfl rfl)) rfl rfl hl.1 rfl (lv_room (Nat.le_of_ble_eq_true rfl)) dL_isFan_20 ⟨Nat.zero_le _, Nat.zero_le _⟩) (fun r9 u9 H locs hr9 hP hD hS => ?_)
  have hr9 : r9 = sS (qσ q) f := hr9
  subst hr9
  refine lv_if_lt (tgt := 58) hx hb dL_isFan_23 (by decide) (fun c9 => absurd c9 (i_nlt0 hS9.1)) (fun _ => ?_)
  refine lv_aload_n hx hb dL_isFan_26 rfl (lv_at hl 0 rfl) ?_
  refine lv_iload_n hx hb dL_isFan_27 rfl (lv_at hl 2 rfl) ?_
  refine kCallP_i (mc := 0) (ms := 0) (W1 := fun _ : Unit => wQ cI cZ cO x a t b q ρ) (fun _ _ h => h) hP hD hS hA (fun _ => rfl) (va_runV (As := [.int (nI f)]) (rest := []) ⟨hx, hb, hml, hown, hts⟩ (c_X2_speed l D cI cZ cO cJ x a t b (qK q) (qHo q) (sT (qσ q)) (sE (qσ q)) (sD (qσ q)) (sF (qσ q)) (sS (qσ q)) (sC (qσ q)) (sL (qσ q)) (sT ρ) (sE ρ) (sD ρ) (sF ρ) (sS ρ) (sC ρ) (sL ρ) (qLo q) (qSe q) (qEf q) (qgp q) (qgi q) (qam q) (qli q) (qdl q) f H.size (by omega)) (cwV (rm := rmX2_speed) 1 hts gL_isFan_X2_speed rfl rfl rfl (by decide +kernel) ⟨Nat.le_of_ble_eq_true rfl, Nat.le_of_ble_eq_true rfl⟩) (kPreVW hK hN (pfP hP) (pfD hD) (va_recv hK (pfP hP) (ci := 2) (q0 := 0) rfl rfl)) rfl rfl hl.1 rfl (lv_room (Nat.le_of_ble_eq_true rfl)) dL_isFan_28 ⟨Nat.zero_le _, Nat.zero_le _⟩) (fun r9 u9 H locs hr9 hP hD hS => ?_)
  have hr9 : r9 = sS (qσ q) f := hr9
  subst hr9
  refine lv_bipush (v := nI 100) hx hb dL_isFan_31 (by decide +kernel) ?_
  refine lv_icmp_gt (tgt := 58) hx hb dL_isFan_33 (by decide) (fun c9 => absurd c9 (i_ngt (h := hS9.2))) (fun _ => ?_)
  refine lv_aload_n hx hb dL_isFan_36 rfl (lv_at hl 1 rfl) ?_
  refine lv_iconst (v := nI 5) hx hb dL_isFan_37 (by decide +kernel) ?_
  refine k_ialdT hx hb hK hP 0 0 rfl rfl (i := 5) (by decide) (by decide) dL_isFan_38 ?_
  refine lv_iload_n hx hb dL_isFan_39 rfl (lv_at hl 2 rfl) ?_
  refine lv_ishr hx hb dL_isFan_40 ?_
  refine lv_iconst (v := nI 1) hx hb dL_isFan_41 (by decide +kernel) ?_
  refine lv_iand hx hb dL_isFan_42 ?_
  refine k_as (y := sF (qσ q) f) (hp.bit (by omega)) ?_
  refine lv_if_eq (tgt := 54) hx hb dL_isFan_43 (by decide) (fun c1 => ?_) (fun c1 => ?_)
  · refine lv_iconst (v := nI 1) hx hb dL_isFan_54 (by decide +kernel) ?_
    refine lv_goto (tgt := 59) hx hb dL_isFan_55 (by decide) ?_
    subst hQ9
    subst hA9
    exact kRetH_z ρ hx hb hr hlocks hP hS dL_isFan_59 rfl (by first | rfl | decide +kernel)
  · refine lv_aload_n hx hb dL_isFan_46 rfl (lv_at hl 0 rfl) ?_
    refine lv_iload_n hx hb dL_isFan_47 rfl (lv_at hl 2 rfl) ?_
    refine kCallP_i (mc := 0) (ms := 0) (W1 := fun _ : Unit => wQ cI cZ cO x a t b q ρ) (fun _ _ h => h) hP hD hS hA (fun _ => rfl) (va_runV (As := [.int (nI f)]) (rest := []) ⟨hx, hb, hml, hown, hts⟩ (c_X2_speed l D cI cZ cO cJ x a t b (qK q) (qHo q) (sT (qσ q)) (sE (qσ q)) (sD (qσ q)) (sF (qσ q)) (sS (qσ q)) (sC (qσ q)) (sL (qσ q)) (sT ρ) (sE ρ) (sD ρ) (sF ρ) (sS ρ) (sC ρ) (sL ρ) (qLo q) (qSe q) (qEf q) (qgp q) (qgi q) (qam q) (qli q) (qdl q) f H.size (by omega)) (cwV (rm := rmX2_speed) 1 hts gL_isFan_X2_speed rfl rfl rfl (by decide +kernel) ⟨Nat.le_of_ble_eq_true rfl, Nat.le_of_ble_eq_true rfl⟩) (kPreVW hK hN (pfP hP) (pfD hD) (va_recv hK (pfP hP) (ci := 2) (q0 := 0) rfl rfl)) rfl rfl hl.1 rfl (lv_room (Nat.le_of_ble_eq_true rfl)) dL_isFan_48 ⟨Nat.zero_le _, Nat.zero_le _⟩) (fun r9 u9 H locs hr9 hP hD hS => ?_)
    have hr9 : r9 = sS (qσ q) f := hr9
    subst hr9
    refine lv_if_ne (tgt := 58) hx hb dL_isFan_51 (by decide) (fun c9 => absurd ((hQ.2.2.2.2.2.1 f hf c1).trans nI_0) c9) (fun _ => ?_)
    refine lv_iconst (v := nI 1) hx hb dL_isFan_54 (by decide +kernel) ?_
    refine lv_goto (tgt := 59) hx hb dL_isFan_55 (by decide) ?_
    subst hQ9
    subst hA9
    exact kRetH_z ρ hx hb hr hlocks hP hS dL_isFan_59 rfl (by first | rfl | decide +kernel)

abbrev rmL_isZone : Room := { frames := 7, cells := 0, slots := 0, locals := 166 }
set_option maxHeartbeats 4000000 in
set_option maxRecDepth 100000 in
theorem c_L_isZone (l : Launch) (D : va_G) (cI cZ cO cJ : ClassId) (x a t b : Nat → Nat) (q : QS) (ρ : HS) (z : Nat) (sz : Nat) (hQ : QOK q) (hz : z < 6) : kMH l yL_isZone wsL_isZone rmL_isZone D (kT cI cZ cO cJ) [.ref (x 0), .int (nI z)] (wQ cI cZ cO x a t b q ρ) (fun u : HS => wQ cI cZ cO x a t b q u) 0 0 sz (nI 1) := by
  refine kEnterQ (cc := cL_isZone) (maxL := 5) (ret := some .boolean) (by decide +kernel) rfl (Nat.le_of_ble_eq_true rfl) ?_
  intro p e s m below meth c args hx hb hr hml hts hown hlocks hK hN A hA9 Q hQ9 hP hD hsz hS hA hX hC ls hl
  have hl : lv_has ls 5 [(0, .ref (x 0)), (1, .int (nI z))] := hl
  obtain ⟨H, hH9⟩ : ∃ H, H = s.heap := ⟨_, rfl⟩
  rw [← hH9] at hP ⊢
  have hS : va_S A s.heap H [] := by rw [hH9]; exact va_S.rf
  have hlocs : ∃ locs : List Loc, locs = [] := ⟨_, rfl⟩
  obtain ⟨locs, hlocs⟩ := hlocs
  rw [← hlocs] at hS ⊢
  have hP : va_P D vwCl (wQ cI cZ cO x a t b q ρ ++ []) H := by rw [List.append_nil]; exact hP
  have hD : va_D A (wQ cI cZ cO x a t b q ρ ++ []) := by rw [List.append_nil]; exact hD
  have hE9 := hQ.2.1.2.1 z hz
  have hD9 := hQ.2.1.2.2.1 z hz
  have hH9 := hQ.2.2.2.2.1 z hz
  have hB9 := mBest_sp (sT (qσ q)) 5
  have hb5 := mBest_le (sT (qσ q)) 5
  have hc9 := cr_rng q z 2
  have hck := hQ.2.2.2.2.2.2
  refine lv_aload_n hx hb dL_isZone_0 rfl (lv_at hl 0 rfl) ?_
  refine lv_iload_n hx hb dL_isZone_1 rfl (lv_at hl 1 rfl) ?_
  refine lv_iconst (v := nI 3) hx hb dL_isZone_2 (by decide +kernel) ?_
  refine kCallP_i (mc := 0) (ms := 0) (W1 := fun ρ : HS => wQ cI cZ cO x a t b q ρ) (fun _ _ h => h) hP hD hS hA (fun _ => rfl) (va_runV (As := [.int (nI z), .int (nI 3)]) (rest := []) ⟨hx, hb, hml, hown, hts⟩ (c_X2_expected l D cI cZ cO cJ x a t b (qK q) (qHo q) (qσ q) (sT ρ) (sE ρ) (sD ρ) (sF ρ) (sS ρ) (sC ρ) (sL ρ) (qLo q) (qSe q) (qEf q) (qgp q) (qgi q) (qam q) (qli q) (qdl q) z 2 H.size (by omega) (by decide) hQ.la hQ.dl hQ.F) (cwV (rm := rmX2_expected) 2 hts gL_isZone_X2_expected rfl rfl rfl (by decide +kernel) ⟨Nat.le_of_ble_eq_true rfl, Nat.le_of_ble_eq_true rfl⟩) (kPreVW hK hN (pfP hP) (pfD hD) (va_recv hK (pfP hP) (ci := 2) (q0 := 0) rfl rfl)) rfl rfl hl.1 rfl (lv_room (Nat.le_of_ble_eq_true rfl)) dL_isZone_3 ⟨Nat.zero_le _, Nat.zero_le _⟩) (fun r9 ρ H locs hr9 hP hD hS => ?_)
  have hr9 : r9 = qE q z 2 := hr9
  subst hr9
  refine lv_istore_n (lv' := [(2, .int (qE q z 2)), (0, .ref (x 0)), (1, .int (nI z))]) hx hb dL_isZone_6 rfl hl (by decide) rfl (fun ls hl => ?_)
  refine lv_aload_n hx hb dL_isZone_7 rfl (lv_at hl 1 rfl) ?_
  refine lv_iload_n hx hb dL_isZone_8 rfl (lv_at hl 2 rfl) ?_
  refine lv_iconst (v := nI 3) hx hb dL_isZone_9 (by decide +kernel) ?_
  refine kCallP_i (mc := 0) (ms := 0) (W1 := fun ρ : HS => wQ cI cZ cO x a t b q ρ) (fun _ _ h => h) hP hD hS hA (fun _ => rfl) (va_runV (As := [.int (nI z), .int (nI 3)]) (rest := []) ⟨hx, hb, hml, hown, hts⟩ (c_X2_margin l D cI cZ cO cJ x a t b (qK q) (qHo q) (qσ q) (sT ρ) (sE ρ) (sD ρ) (sF ρ) (sS ρ) (sC ρ) (sL ρ) (qLo q) (qSe q) (qEf q) (qgp q) (qgi q) (qam q) (qli q) (qdl q) z 2 H.size (by omega) (by decide) hQ.la hQ.dl hQ.F) (cwV (rm := rmX2_margin) 2 hts gL_isZone_X2_margin rfl rfl rfl (by decide +kernel) ⟨Nat.le_of_ble_eq_true rfl, Nat.le_of_ble_eq_true rfl⟩) (kPreVW hK hN (pfP hP) (pfD hD) (va_recv hK (pfP hP) (ci := 2) (q0 := 0) rfl rfl)) rfl rfl hl.1 rfl (lv_room (Nat.le_of_ble_eq_true rfl)) dL_isZone_10 ⟨Nat.zero_le _, Nat.zero_le _⟩) (fun r9 ρ H locs hr9 hP hD hS => ?_)
  have hr9 : r9 = qM q z 2 := hr9
  subst hr9
  refine lv_istore_n (lv' := [(3, .int (qM q z 2)), (2, .int (qE q z 2)), (0, .ref (x 0)), (1, .int (nI z))]) hx hb dL_isZone_13 rfl hl (by decide) rfl (fun ls hl => ?_)
  refine lv_aload_n hx hb dL_isZone_14 rfl (lv_at hl 2 rfl) ?_
  refine lv_iload_n hx hb dL_isZone_15 rfl (lv_at hl 3 rfl) ?_
  refine lv_iconst (v := nI 3) hx hb dL_isZone_16 (by decide +kernel) ?_
  refine kCallP_i (mc := 0) (ms := 0) (W1 := fun ρ : HS => wQ cI cZ cO x a t b q ρ) (fun _ _ h => h) hP hD hS hA (fun _ => rfl) (va_runV (As := [.int (nI z), .int (nI 3)]) (rest := []) ⟨hx, hb, hml, hown, hts⟩ (c_X2_critical l D cI cZ cO cJ x a t b (qK q) (qHo q) (qσ q) (sT ρ) (sE ρ) (sD ρ) (sF ρ) (sS ρ) (sC ρ) (sL ρ) (qLo q) (qSe q) (qEf q) (qgp q) (qgi q) (qam q) (qli q) (qdl q) z 2 H.size (by omega) (by decide) hQ.la hQ.dl hQ.F) (cwV (rm := rmX2_critical) 2 hts gL_isZone_X2_critical rfl rfl rfl (by decide +kernel) ⟨Nat.le_of_ble_eq_true rfl, Nat.le_of_ble_eq_true rfl⟩) (kPreVW hK hN (pfP hP) (pfD hD) (va_recv hK (pfP hP) (ci := 2) (q0 := 0) rfl rfl)) rfl rfl hl.1 rfl (lv_room (Nat.le_of_ble_eq_true rfl)) dL_isZone_17 ⟨Nat.zero_le _, Nat.zero_le _⟩) (fun r9 ρ H locs hr9 hP hD hS => ?_)
  have hr9 : r9 = qCr q z 2 := hr9
  subst hr9
  refine lv_istore (lv' := [(4, .int (qCr q z 2)), (3, .int (qM q z 2)), (2, .int (qE q z 2)), (0, .ref (x 0)), (1, .int (nI z))]) hx hb dL_isZone_20 hl (by decide) rfl (fun ls hl => ?_)
  refine lv_aload_n hx hb dL_isZone_22 rfl (lv_at hl 3 rfl) ?_
  refine lv_iload_n hx hb dL_isZone_23 rfl (lv_at hl 4 rfl) ?_
  refine kCallP_i (mc := 0) (ms := 0) (W1 := fun _ : Unit => wQ cI cZ cO x a t b q ρ) (fun _ _ h => h) hP hD hS hA (fun _ => rfl) (va_runV (As := [.int (nI z)]) (rest := []) ⟨hx, hb, hml, hown, hts⟩ (c_X2_demand l D cI cZ cO cJ x a t b (qK q) (qHo q) (sT (qσ q)) (sE (qσ q)) (sD (qσ q)) (sF (qσ q)) (sS (qσ q)) (sC (qσ q)) (sL (qσ q)) (sT ρ) (sE ρ) (sD ρ) (sF ρ) (sS ρ) (sC ρ) (sL ρ) (qLo q) (qSe q) (qEf q) (qgp q) (qgi q) (qam q) (qli q) (qdl q) z H.size (by omega)) (cwV (rm := rmX2_demand) 1 hts gL_isZone_X2_demand rfl rfl rfl (by decide +kernel) ⟨Nat.le_of_ble_eq_true rfl, Nat.le_of_ble_eq_true rfl⟩) (kPreVW hK hN (pfP hP) (pfD hD) (va_recv hK (pfP hP) (ci := 2) (q0 := 0) rfl rfl)) rfl rfl hl.1 rfl (lv_room (Nat.le_of_ble_eq_true rfl)) dL_isZone_24 ⟨Nat.zero_le _, Nat.zero_le _⟩) (fun r9 u9 H locs hr9 hP hD hS => ?_)
  have hr9 : r9 = sD (qσ q) z := hr9
  subst hr9
  refine lv_if_lt (tgt := 159) hx hb dL_isZone_27 (by decide) (fun c9 => absurd c9 (i_nlt0 hD9.1)) (fun _ => ?_)
  refine lv_aload_n hx hb dL_isZone_30 rfl (lv_at hl 3 rfl) ?_
  refine lv_iload_n hx hb dL_isZone_31 rfl (lv_at hl 4 rfl) ?_
  refine kCallP_i (mc := 0) (ms := 0) (W1 := fun _ : Unit => wQ cI cZ cO x a t b q ρ) (fun _ _ h => h) hP hD hS hA (fun _ => rfl) (va_runV (As := [.int (nI z)]) (rest := []) ⟨hx, hb, hml, hown, hts⟩ (c_X2_demand l D cI cZ cO cJ x a t b (qK q) (qHo q) (sT (qσ q)) (sE (qσ q)) (sD (qσ q)) (sF (qσ q)) (sS (qσ q)) (sC (qσ q)) (sL (qσ q)) (sT ρ) (sE ρ) (sD ρ) (sF ρ) (sS ρ) (sC ρ) (sL ρ) (qLo q) (qSe q) (qEf q) (qgp q) (qgi q) (qam q) (qli q) (qdl q) z H.size (by omega)) (cwV (rm := rmX2_demand) 1 hts gL_isZone_X2_demand rfl rfl rfl (by decide +kernel) ⟨Nat.le_of_ble_eq_true rfl, Nat.le_of_ble_eq_true rfl⟩) (kPreVW hK hN (pfP hP) (pfD hD) (va_recv hK (pfP hP) (ci := 2) (q0 := 0) rfl rfl)) rfl rfl hl.1 rfl (lv_room (Nat.le_of_ble_eq_true rfl)) dL_isZone_32 ⟨Nat.zero_le _, Nat.zero_le _⟩) (fun r9 u9 H locs hr9 hP hD hS => ?_)
  have hr9 : r9 = sD (qσ q) z := hr9
  subst hr9
  refine lv_bipush (v := nI 100) hx hb dL_isZone_35 (by decide +kernel) ?_
  refine lv_icmp_gt (tgt := 159) hx hb dL_isZone_37 (by decide) (fun c9 => absurd c9 (i_ngt (h := hD9.2))) (fun _ => ?_)
  refine lv_aload_n hx hb dL_isZone_40 rfl (lv_at hl 3 rfl) ?_
  refine lv_iload_n hx hb dL_isZone_41 rfl (lv_at hl 4 rfl) ?_
  refine kCallP_i (mc := 0) (ms := 0) (W1 := fun _ : Unit => wQ cI cZ cO x a t b q ρ) (fun _ _ h => h) hP hD hS hA (fun _ => rfl) (va_runV (As := [.int (nI z)]) (rest := []) ⟨hx, hb, hml, hown, hts⟩ (c_X2_errors l D cI cZ cO cJ x a t b (qK q) (qHo q) (sT (qσ q)) (sE (qσ q)) (sD (qσ q)) (sF (qσ q)) (sS (qσ q)) (sC (qσ q)) (sL (qσ q)) (sT ρ) (sE ρ) (sD ρ) (sF ρ) (sS ρ) (sC ρ) (sL ρ) (qLo q) (qSe q) (qEf q) (qgp q) (qgi q) (qam q) (qli q) (qdl q) z H.size (by omega)) (cwV (rm := rmX2_errors) 1 hts gL_isZone_X2_errors rfl rfl rfl (by decide +kernel) ⟨Nat.le_of_ble_eq_true rfl, Nat.le_of_ble_eq_true rfl⟩) (kPreVW hK hN (pfP hP) (pfD hD) (va_recv hK (pfP hP) (ci := 2) (q0 := 0) rfl rfl)) rfl rfl hl.1 rfl (lv_room (Nat.le_of_ble_eq_true rfl)) dL_isZone_42 ⟨Nat.zero_le _, Nat.zero_le _⟩) (fun r9 u9 H locs hr9 hP hD hS => ?_)
  have hr9 : r9 = sE (qσ q) z := hr9
  subst hr9
  refine lv_sipush (v := (-20000)) hx hb dL_isZone_45 (by decide +kernel) ?_
  refine lv_icmp_lt (tgt := 159) hx hb dL_isZone_48 (by decide) (fun c9 => absurd c9 (i_nltm hE9.1)) (fun _ => ?_)
  refine lv_aload_n hx hb dL_isZone_51 rfl (lv_at hl 3 rfl) ?_
  refine lv_iload_n hx hb dL_isZone_52 rfl (lv_at hl 4 rfl) ?_
  refine kCallP_i (mc := 0) (ms := 0) (W1 := fun _ : Unit => wQ cI cZ cO x a t b q ρ) (fun _ _ h => h) hP hD hS hA (fun _ => rfl) (va_runV (As := [.int (nI z)]) (rest := []) ⟨hx, hb, hml, hown, hts⟩ (c_X2_errors l D cI cZ cO cJ x a t b (qK q) (qHo q) (sT (qσ q)) (sE (qσ q)) (sD (qσ q)) (sF (qσ q)) (sS (qσ q)) (sC (qσ q)) (sL (qσ q)) (sT ρ) (sE ρ) (sD ρ) (sF ρ) (sS ρ) (sC ρ) (sL ρ) (qLo q) (qSe q) (qEf q) (qgp q) (qgi q) (qam q) (qli q) (qdl q) z H.size (by omega)) (cwV (rm := rmX2_errors) 1 hts gL_isZone_X2_errors rfl rfl rfl (by decide +kernel) ⟨Nat.le_of_ble_eq_true rfl, Nat.le_of_ble_eq_true rfl⟩) (kPreVW hK hN (pfP hP) (pfD hD) (va_recv hK (pfP hP) (ci := 2) (q0 := 0) rfl rfl)) rfl rfl hl.1 rfl (lv_room (Nat.le_of_ble_eq_true rfl)) dL_isZone_53 ⟨Nat.zero_le _, Nat.zero_le _⟩) (fun r9 u9 H locs hr9 hP hD hS => ?_)
  have hr9 : r9 = sE (qσ q) z := hr9
  subst hr9
  refine lv_sipush (v := nI 20000) hx hb dL_isZone_56 (by decide +kernel) ?_
  refine lv_icmp_gt (tgt := 159) hx hb dL_isZone_59 (by decide) (fun c9 => absurd c9 (i_ngt (h := hE9.2))) (fun _ => ?_)
  refine lv_aload_n hx hb dL_isZone_62 rfl (lv_at hl 3 rfl) ?_
  refine lv_iload_n hx hb dL_isZone_63 rfl (lv_at hl 4 rfl) ?_
  refine kCallP_i (mc := 0) (ms := 0) (W1 := fun _ : Unit => wQ cI cZ cO x a t b q ρ) (fun _ _ h => h) hP hD hS hA (fun _ => rfl) (va_runV (As := [.int (nI z)]) (rest := []) ⟨hx, hb, hml, hown, hts⟩ (c_X2_hotMinutes l D cI cZ cO cJ x a t b (qK q) (qHo q) (sT (qσ q)) (sE (qσ q)) (sD (qσ q)) (sF (qσ q)) (sS (qσ q)) (sC (qσ q)) (sL (qσ q)) (sT ρ) (sE ρ) (sD ρ) (sF ρ) (sS ρ) (sC ρ) (sL ρ) (qLo q) (qSe q) (qEf q) (qgp q) (qgi q) (qam q) (qli q) (qdl q) z H.size (by omega)) (cwV (rm := rmX2_hotMinutes) 1 hts gL_isZone_X2_hotMinutes rfl rfl rfl (by decide +kernel) ⟨Nat.le_of_ble_eq_true rfl, Nat.le_of_ble_eq_true rfl⟩) (kPreVW hK hN (pfP hP) (pfD hD) (va_recv hK (pfP hP) (ci := 2) (q0 := 0) rfl rfl)) rfl rfl hl.1 rfl (lv_room (Nat.le_of_ble_eq_true rfl)) dL_isZone_64 ⟨Nat.zero_le _, Nat.zero_le _⟩) (fun r9 u9 H locs hr9 hP hD hS => ?_)
  have hr9 : r9 = qHo q z := hr9
  subst hr9
  refine lv_if_lt (tgt := 159) hx hb dL_isZone_67 (by decide) (fun c9 => absurd c9 (i_nlt0 hH9.1)) (fun _ => ?_)
  refine lv_aload_n hx hb dL_isZone_70 rfl (lv_at hl 3 rfl) ?_
  refine lv_iload_n hx hb dL_isZone_71 rfl (lv_at hl 4 rfl) ?_
  refine kCallP_i (mc := 0) (ms := 0) (W1 := fun _ : Unit => wQ cI cZ cO x a t b q ρ) (fun _ _ h => h) hP hD hS hA (fun _ => rfl) (va_runV (As := [.int (nI z)]) (rest := []) ⟨hx, hb, hml, hown, hts⟩ (c_X2_hotMinutes l D cI cZ cO cJ x a t b (qK q) (qHo q) (sT (qσ q)) (sE (qσ q)) (sD (qσ q)) (sF (qσ q)) (sS (qσ q)) (sC (qσ q)) (sL (qσ q)) (sT ρ) (sE ρ) (sD ρ) (sF ρ) (sS ρ) (sC ρ) (sL ρ) (qLo q) (qSe q) (qEf q) (qgp q) (qgi q) (qam q) (qli q) (qdl q) z H.size (by omega)) (cwV (rm := rmX2_hotMinutes) 1 hts gL_isZone_X2_hotMinutes rfl rfl rfl (by decide +kernel) ⟨Nat.le_of_ble_eq_true rfl, Nat.le_of_ble_eq_true rfl⟩) (kPreVW hK hN (pfP hP) (pfD hD) (va_recv hK (pfP hP) (ci := 2) (q0 := 0) rfl rfl)) rfl rfl hl.1 rfl (lv_room (Nat.le_of_ble_eq_true rfl)) dL_isZone_72 ⟨Nat.zero_le _, Nat.zero_le _⟩) (fun r9 u9 H locs hr9 hP hD hS => ?_)
  have hr9 : r9 = qHo q z := hr9
  subst hr9
  refine lv_aload_n hx hb dL_isZone_75 rfl (lv_at hl 3 rfl) ?_
  refine kCallP_i (mc := 0) (ms := 0) (W1 := fun _ : Unit => wQ cI cZ cO x a t b q ρ) (fun _ _ h => h) hP hD hS hA (fun _ => rfl) (va_runV (As := []) (rest := [.int (qHo q z)]) ⟨hx, hb, hml, hown, hts⟩ (c_X2_clock l D cI cZ cO cJ x a t b (qK q) (qHo q) (sT (qσ q)) (sE (qσ q)) (sD (qσ q)) (sF (qσ q)) (sS (qσ q)) (sC (qσ q)) (sL (qσ q)) (sT ρ) (sE ρ) (sD ρ) (sF ρ) (sS ρ) (sC ρ) (sL ρ) (qLo q) (qSe q) (qEf q) (qgp q) (qgi q) (qam q) (qli q) (qdl q) H.size ) (cwV (rm := rmX2_clock) 0 hts gL_isZone_X2_clock rfl rfl rfl (by decide +kernel) ⟨Nat.le_of_ble_eq_true rfl, Nat.le_of_ble_eq_true rfl⟩) (kPreVW hK hN (pfP hP) (pfD hD) (va_recv hK (pfP hP) (ci := 2) (q0 := 0) rfl rfl)) rfl rfl hl.1 rfl (lv_room (Nat.le_of_ble_eq_true rfl)) dL_isZone_76 ⟨Nat.zero_le _, Nat.zero_le _⟩) (fun r9 u9 H locs hr9 hP hD hS => ?_)
  have hr9 : r9 = nI (qK q) := hr9
  subst hr9
  refine lv_icmp_gt (tgt := 159) hx hb dL_isZone_79 (by decide) (fun c9 => absurd c9 (i_ngt (h := hH9.2))) (fun _ => ?_)
  refine lv_aload_n hx hb dL_isZone_82 rfl (lv_at hl 3 rfl) ?_
  refine lv_aload_n hx hb dL_isZone_83 rfl (lv_at hl 3 rfl) ?_
  refine kCallP_i (mc := 0) (ms := 0) (W1 := fun _ : Unit => wQ cI cZ cO x a t b q ρ) (fun _ _ h => h) hP hD hS hA (fun _ => rfl) (va_runV (As := []) (rest := [.ref (x 0)]) ⟨hx, hb, hml, hown, hts⟩ (c_X2_hottest l D cI cZ cO cJ x a t b (qK q) (qHo q) (sT (qσ q)) (sE (qσ q)) (sD (qσ q)) (sF (qσ q)) (sS (qσ q)) (sC (qσ q)) (sL (qσ q)) (sT ρ) (sE ρ) (sD ρ) (sF ρ) (sS ρ) (sC ρ) (sL ρ) (qLo q) (qSe q) (qEf q) (qgp q) (qgi q) (qam q) (qli q) (qdl q) H.size ) (cwV (rm := rmX2_hottest) 0 hts gL_isZone_X2_hottest rfl rfl rfl (by decide +kernel) ⟨Nat.le_of_ble_eq_true rfl, Nat.le_of_ble_eq_true rfl⟩) (kPreVW hK hN (pfP hP) (pfD hD) (va_recv hK (pfP hP) (ci := 2) (q0 := 0) rfl rfl)) rfl rfl hl.1 rfl (lv_room (Nat.le_of_ble_eq_true rfl)) dL_isZone_84 ⟨Nat.zero_le _, Nat.zero_le _⟩) (fun r9 u9 H locs hr9 hP hD hS => ?_)
  have hr9 : r9 = nI (mBest (sT (qσ q)) 5) := hr9
  subst hr9
  refine kCallP_i (mc := 0) (ms := 0) (W1 := fun _ : Unit => wQ cI cZ cO x a t b q ρ) (fun _ _ h => h) hP hD hS hA (fun _ => rfl) (va_runV (As := [.int (nI (mBest (sT (qσ q)) 5))]) (rest := []) ⟨hx, hb, hml, hown, hts⟩ (c_X2_temperature l D cI cZ cO cJ x a t b (qK q) (qHo q) (sT (qσ q)) (sE (qσ q)) (sD (qσ q)) (sF (qσ q)) (sS (qσ q)) (sC (qσ q)) (sL (qσ q)) (sT ρ) (sE ρ) (sD ρ) (sF ρ) (sS ρ) (sC ρ) (sL ρ) (qLo q) (qSe q) (qEf q) (qgp q) (qgi q) (qam q) (qli q) (qdl q) (mBest (sT (qσ q)) 5) H.size (by omega)) (cwV (rm := rmX2_temperature) 1 hts gL_isZone_X2_temperature rfl rfl rfl (by decide +kernel) ⟨Nat.le_of_ble_eq_true rfl, Nat.le_of_ble_eq_true rfl⟩) (kPreVW hK hN (pfP hP) (pfD hD) (va_recv hK (pfP hP) (ci := 2) (q0 := 0) rfl rfl)) rfl rfl hl.1 rfl (lv_room (Nat.le_of_ble_eq_true rfl)) dL_isZone_87 ⟨Nat.zero_le _, Nat.zero_le _⟩) (fun r9 u9 H locs hr9 hP hD hS => ?_)
  have hr9 : r9 = sT (qσ q) (mBest (sT (qσ q)) 5) := hr9
  subst hr9
  refine lv_aload_n hx hb dL_isZone_90 rfl (lv_at hl 3 rfl) ?_
  refine lv_iload_n hx hb dL_isZone_91 rfl (lv_at hl 4 rfl) ?_
  refine kCallP_i (mc := 0) (ms := 0) (W1 := fun _ : Unit => wQ cI cZ cO x a t b q ρ) (fun _ _ h => h) hP hD hS hA (fun _ => rfl) (va_runV (As := [.int (nI z)]) (rest := [.int (sT (qσ q) (mBest (sT (qσ q)) 5))]) ⟨hx, hb, hml, hown, hts⟩ (c_X2_temperature l D cI cZ cO cJ x a t b (qK q) (qHo q) (sT (qσ q)) (sE (qσ q)) (sD (qσ q)) (sF (qσ q)) (sS (qσ q)) (sC (qσ q)) (sL (qσ q)) (sT ρ) (sE ρ) (sD ρ) (sF ρ) (sS ρ) (sC ρ) (sL ρ) (qLo q) (qSe q) (qEf q) (qgp q) (qgi q) (qam q) (qli q) (qdl q) z H.size (by omega)) (cwV (rm := rmX2_temperature) 1 hts gL_isZone_X2_temperature rfl rfl rfl (by decide +kernel) ⟨Nat.le_of_ble_eq_true rfl, Nat.le_of_ble_eq_true rfl⟩) (kPreVW hK hN (pfP hP) (pfD hD) (va_recv hK (pfP hP) (ci := 2) (q0 := 0) rfl rfl)) rfl rfl hl.1 rfl (lv_room (Nat.le_of_ble_eq_true rfl)) dL_isZone_92 ⟨Nat.zero_le _, Nat.zero_le _⟩) (fun r9 u9 H locs hr9 hP hD hS => ?_)
  have hr9 : r9 = sT (qσ q) z := hr9
  subst hr9
  refine lv_icmp_lt (tgt := 159) hx hb dL_isZone_95 (by decide) (fun c9 => absurd c9 (Int32.not_lt.mpr (hB9.1 z (by omega)))) (fun _ => ?_)
  refine lv_aload_n hx hb dL_isZone_98 rfl (lv_at hl 3 rfl) ?_
  refine lv_aload_n hx hb dL_isZone_99 rfl (lv_at hl 3 rfl) ?_
  refine kCallP_i (mc := 0) (ms := 0) (W1 := fun _ : Unit => wQ cI cZ cO x a t b q ρ) (fun _ _ h => h) hP hD hS hA (fun _ => rfl) (va_runV (As := []) (rest := [.ref (x 0)]) ⟨hx, hb, hml, hown, hts⟩ (c_X2_hottest l D cI cZ cO cJ x a t b (qK q) (qHo q) (sT (qσ q)) (sE (qσ q)) (sD (qσ q)) (sF (qσ q)) (sS (qσ q)) (sC (qσ q)) (sL (qσ q)) (sT ρ) (sE ρ) (sD ρ) (sF ρ) (sS ρ) (sC ρ) (sL ρ) (qLo q) (qSe q) (qEf q) (qgp q) (qgi q) (qam q) (qli q) (qdl q) H.size ) (cwV (rm := rmX2_hottest) 0 hts gL_isZone_X2_hottest rfl rfl rfl (by decide +kernel) ⟨Nat.le_of_ble_eq_true rfl, Nat.le_of_ble_eq_true rfl⟩) (kPreVW hK hN (pfP hP) (pfD hD) (va_recv hK (pfP hP) (ci := 2) (q0 := 0) rfl rfl)) rfl rfl hl.1 rfl (lv_room (Nat.le_of_ble_eq_true rfl)) dL_isZone_100 ⟨Nat.zero_le _, Nat.zero_le _⟩) (fun r9 u9 H locs hr9 hP hD hS => ?_)
  have hr9 : r9 = nI (mBest (sT (qσ q)) 5) := hr9
  subst hr9
  refine kCallP_i (mc := 0) (ms := 0) (W1 := fun _ : Unit => wQ cI cZ cO x a t b q ρ) (fun _ _ h => h) hP hD hS hA (fun _ => rfl) (va_runV (As := [.int (nI (mBest (sT (qσ q)) 5))]) (rest := []) ⟨hx, hb, hml, hown, hts⟩ (c_X2_temperature l D cI cZ cO cJ x a t b (qK q) (qHo q) (sT (qσ q)) (sE (qσ q)) (sD (qσ q)) (sF (qσ q)) (sS (qσ q)) (sC (qσ q)) (sL (qσ q)) (sT ρ) (sE ρ) (sD ρ) (sF ρ) (sS ρ) (sC ρ) (sL ρ) (qLo q) (qSe q) (qEf q) (qgp q) (qgi q) (qam q) (qli q) (qdl q) (mBest (sT (qσ q)) 5) H.size (by omega)) (cwV (rm := rmX2_temperature) 1 hts gL_isZone_X2_temperature rfl rfl rfl (by decide +kernel) ⟨Nat.le_of_ble_eq_true rfl, Nat.le_of_ble_eq_true rfl⟩) (kPreVW hK hN (pfP hP) (pfD hD) (va_recv hK (pfP hP) (ci := 2) (q0 := 0) rfl rfl)) rfl rfl hl.1 rfl (lv_room (Nat.le_of_ble_eq_true rfl)) dL_isZone_103 ⟨Nat.zero_le _, Nat.zero_le _⟩) (fun r9 u9 H locs hr9 hP hD hS => ?_)
  have hr9 : r9 = sT (qσ q) (mBest (sT (qσ q)) 5) := hr9
  subst hr9
  refine lv_aload_n hx hb dL_isZone_106 rfl (lv_at hl 3 rfl) ?_
  refine lv_iload_n hx hb dL_isZone_107 rfl (lv_at hl 4 rfl) ?_
  refine kCallP_i (mc := 0) (ms := 0) (W1 := fun _ : Unit => wQ cI cZ cO x a t b q ρ) (fun _ _ h => h) hP hD hS hA (fun _ => rfl) (va_runV (As := [.int (nI z)]) (rest := [.int (sT (qσ q) (mBest (sT (qσ q)) 5))]) ⟨hx, hb, hml, hown, hts⟩ (c_X2_temperature l D cI cZ cO cJ x a t b (qK q) (qHo q) (sT (qσ q)) (sE (qσ q)) (sD (qσ q)) (sF (qσ q)) (sS (qσ q)) (sC (qσ q)) (sL (qσ q)) (sT ρ) (sE ρ) (sD ρ) (sF ρ) (sS ρ) (sC ρ) (sL ρ) (qLo q) (qSe q) (qEf q) (qgp q) (qgi q) (qam q) (qli q) (qdl q) z H.size (by omega)) (cwV (rm := rmX2_temperature) 1 hts gL_isZone_X2_temperature rfl rfl rfl (by decide +kernel) ⟨Nat.le_of_ble_eq_true rfl, Nat.le_of_ble_eq_true rfl⟩) (kPreVW hK hN (pfP hP) (pfD hD) (va_recv hK (pfP hP) (ci := 2) (q0 := 0) rfl rfl)) rfl rfl hl.1 rfl (lv_room (Nat.le_of_ble_eq_true rfl)) dL_isZone_108 ⟨Nat.zero_le _, Nat.zero_le _⟩) (fun r9 u9 H locs hr9 hP hD hS => ?_)
  have hr9 : r9 = sT (qσ q) z := hr9
  subst hr9
  refine lv_icmp_gt (tgt := 122) hx hb dL_isZone_111 (by decide) (fun c1 => ?_) (fun c1 => ?_)
  · refine lv_iload_n hx hb dL_isZone_122 rfl (lv_at hl 2 rfl) ?_
    refine lv_aload_n hx hb dL_isZone_123 rfl (lv_at hl 3 rfl) ?_
    refine lv_iload_n hx hb dL_isZone_124 rfl (lv_at hl 4 rfl) ?_
    refine lv_iconst (v := nI 2) hx hb dL_isZone_125 (by decide +kernel) ?_
    refine kCallP_i (mc := 0) (ms := 0) (W1 := fun ρ : HS => wQ cI cZ cO x a t b q ρ) (fun _ _ h => h) hP hD hS hA (fun _ => rfl) (va_runV (As := [.int (nI z), .int (nI 2)]) (rest := [.int (qE q z 2)]) ⟨hx, hb, hml, hown, hts⟩ (c_X2_expected l D cI cZ cO cJ x a t b (qK q) (qHo q) (qσ q) (sT ρ) (sE ρ) (sD ρ) (sF ρ) (sS ρ) (sC ρ) (sL ρ) (qLo q) (qSe q) (qEf q) (qgp q) (qgi q) (qam q) (qli q) (qdl q) z 1 H.size (by omega) (by decide) hQ.la hQ.dl hQ.F) (cwV (rm := rmX2_expected) 2 hts gL_isZone_X2_expected rfl rfl rfl (by decide +kernel) ⟨Nat.le_of_ble_eq_true rfl, Nat.le_of_ble_eq_true rfl⟩) (kPreVW hK hN (pfP hP) (pfD hD) (va_recv hK (pfP hP) (ci := 2) (q0 := 0) rfl rfl)) rfl rfl hl.1 rfl (lv_room (Nat.le_of_ble_eq_true rfl)) dL_isZone_126 ⟨Nat.zero_le _, Nat.zero_le _⟩) (fun r9 ρ H locs hr9 hP hD hS => ?_)
    have hr9 : r9 = qE q z 1 := hr9
    subst hr9
    refine lv_icmp_lt (tgt := 159) hx hb dL_isZone_129 (by decide) (fun c9 => absurd c9 (Int32.not_lt.mpr (qE_up q z 1))) (fun _ => ?_)
    refine lv_iload hx hb dL_isZone_132 (lv_at hl 0 rfl) ?_
    refine lv_iconst (v := (-1)) hx hb dL_isZone_134 (by decide +kernel) ?_
    refine lv_icmp_lt (tgt := 159) hx hb dL_isZone_135 (by decide) (fun c9 => absurd c9 hc9.1) (fun _ => ?_)
    refine lv_iload hx hb dL_isZone_138 (lv_at hl 0 rfl) ?_
    refine lv_bipush (v := nI 8) hx hb dL_isZone_140 (by decide +kernel) ?_
    refine lv_icmp_ge (tgt := 159) hx hb dL_isZone_142 (by decide) (fun c9 => absurd c9 hc9.2) (fun _ => ?_)
    refine lv_iload_n hx hb dL_isZone_145 rfl (lv_at hl 1 rfl) ?_
    refine lv_aload_n hx hb dL_isZone_146 rfl (lv_at hl 3 rfl) ?_
    refine lv_iload_n hx hb dL_isZone_147 rfl (lv_at hl 4 rfl) ?_
    refine lv_iconst (v := nI 2) hx hb dL_isZone_148 (by decide +kernel) ?_
    refine kCallP_i (mc := 0) (ms := 0) (W1 := fun ρ : HS => wQ cI cZ cO x a t b q ρ) (fun _ _ h => h) hP hD hS hA (fun _ => rfl) (va_runV (As := [.int (nI z), .int (nI 2)]) (rest := [.int (qM q z 2)]) ⟨hx, hb, hml, hown, hts⟩ (c_X2_margin l D cI cZ cO cJ x a t b (qK q) (qHo q) (qσ q) (sT ρ) (sE ρ) (sD ρ) (sF ρ) (sS ρ) (sC ρ) (sL ρ) (qLo q) (qSe q) (qEf q) (qgp q) (qgi q) (qam q) (qli q) (qdl q) z 1 H.size (by omega) (by decide) hQ.la hQ.dl hQ.F) (cwV (rm := rmX2_margin) 2 hts gL_isZone_X2_margin rfl rfl rfl (by decide +kernel) ⟨Nat.le_of_ble_eq_true rfl, Nat.le_of_ble_eq_true rfl⟩) (kPreVW hK hN (pfP hP) (pfD hD) (va_recv hK (pfP hP) (ci := 2) (q0 := 0) rfl rfl)) rfl rfl hl.1 rfl (lv_room (Nat.le_of_ble_eq_true rfl)) dL_isZone_149 ⟨Nat.zero_le _, Nat.zero_le _⟩) (fun r9 ρ H locs hr9 hP hD hS => ?_)
    have hr9 : r9 = qM q z 1 := hr9
    subst hr9
    refine lv_icmp_gt (tgt := 159) hx hb dL_isZone_152 (by decide) (fun c9 => absurd c9 (Int32.not_lt.mpr (qM_dn hQ hz 1))) (fun _ => ?_)
    refine lv_iconst (v := nI 1) hx hb dL_isZone_155 (by decide +kernel) ?_
    refine lv_goto (tgt := 160) hx hb dL_isZone_156 (by decide) ?_
    subst hQ9
    subst hA9
    rw [List.append_nil] at hP
    exact kRetH_z ρ hx hb hr hlocks hP hS dL_isZone_160 rfl (by first | rfl | decide +kernel)
  · refine lv_aload_n hx hb dL_isZone_114 rfl (lv_at hl 3 rfl) ?_
    refine kCallP_i (mc := 0) (ms := 0) (W1 := fun _ : Unit => wQ cI cZ cO x a t b q ρ) (fun _ _ h => h) hP hD hS hA (fun _ => rfl) (va_runV (As := []) (rest := []) ⟨hx, hb, hml, hown, hts⟩ (c_X2_hottest l D cI cZ cO cJ x a t b (qK q) (qHo q) (sT (qσ q)) (sE (qσ q)) (sD (qσ q)) (sF (qσ q)) (sS (qσ q)) (sC (qσ q)) (sL (qσ q)) (sT ρ) (sE ρ) (sD ρ) (sF ρ) (sS ρ) (sC ρ) (sL ρ) (qLo q) (qSe q) (qEf q) (qgp q) (qgi q) (qam q) (qli q) (qdl q) H.size ) (cwV (rm := rmX2_hottest) 0 hts gL_isZone_X2_hottest rfl rfl rfl (by decide +kernel) ⟨Nat.le_of_ble_eq_true rfl, Nat.le_of_ble_eq_true rfl⟩) (kPreVW hK hN (pfP hP) (pfD hD) (va_recv hK (pfP hP) (ci := 2) (q0 := 0) rfl rfl)) rfl rfl hl.1 rfl (lv_room (Nat.le_of_ble_eq_true rfl)) dL_isZone_115 ⟨Nat.zero_le _, Nat.zero_le _⟩) (fun r9 u9 H locs hr9 hP hD hS => ?_)
    have hr9 : r9 = nI (mBest (sT (qσ q)) 5) := hr9
    subst hr9
    refine lv_iload_n hx hb dL_isZone_118 rfl (lv_at hl 4 rfl) ?_
    refine lv_icmp_gt (tgt := 159) hx hb dL_isZone_119 (by decide) (fun c9 => absurd c9 (fun g9 => (hB9.2 z (by omega)).elim (fun g => c1 g) (fun g => absurd g9 (nI_nlt g (by omega))))) (fun _ => ?_)
    refine lv_iload_n hx hb dL_isZone_122 rfl (lv_at hl 2 rfl) ?_
    refine lv_aload_n hx hb dL_isZone_123 rfl (lv_at hl 3 rfl) ?_
    refine lv_iload_n hx hb dL_isZone_124 rfl (lv_at hl 4 rfl) ?_
    refine lv_iconst (v := nI 2) hx hb dL_isZone_125 (by decide +kernel) ?_
    refine kCallP_i (mc := 0) (ms := 0) (W1 := fun ρ : HS => wQ cI cZ cO x a t b q ρ) (fun _ _ h => h) hP hD hS hA (fun _ => rfl) (va_runV (As := [.int (nI z), .int (nI 2)]) (rest := [.int (qE q z 2)]) ⟨hx, hb, hml, hown, hts⟩ (c_X2_expected l D cI cZ cO cJ x a t b (qK q) (qHo q) (qσ q) (sT ρ) (sE ρ) (sD ρ) (sF ρ) (sS ρ) (sC ρ) (sL ρ) (qLo q) (qSe q) (qEf q) (qgp q) (qgi q) (qam q) (qli q) (qdl q) z 1 H.size (by omega) (by decide) hQ.la hQ.dl hQ.F) (cwV (rm := rmX2_expected) 2 hts gL_isZone_X2_expected rfl rfl rfl (by decide +kernel) ⟨Nat.le_of_ble_eq_true rfl, Nat.le_of_ble_eq_true rfl⟩) (kPreVW hK hN (pfP hP) (pfD hD) (va_recv hK (pfP hP) (ci := 2) (q0 := 0) rfl rfl)) rfl rfl hl.1 rfl (lv_room (Nat.le_of_ble_eq_true rfl)) dL_isZone_126 ⟨Nat.zero_le _, Nat.zero_le _⟩) (fun r9 ρ H locs hr9 hP hD hS => ?_)
    have hr9 : r9 = qE q z 1 := hr9
    subst hr9
    refine lv_icmp_lt (tgt := 159) hx hb dL_isZone_129 (by decide) (fun c9 => absurd c9 (Int32.not_lt.mpr (qE_up q z 1))) (fun _ => ?_)
    refine lv_iload hx hb dL_isZone_132 (lv_at hl 0 rfl) ?_
    refine lv_iconst (v := (-1)) hx hb dL_isZone_134 (by decide +kernel) ?_
    refine lv_icmp_lt (tgt := 159) hx hb dL_isZone_135 (by decide) (fun c9 => absurd c9 hc9.1) (fun _ => ?_)
    refine lv_iload hx hb dL_isZone_138 (lv_at hl 0 rfl) ?_
    refine lv_bipush (v := nI 8) hx hb dL_isZone_140 (by decide +kernel) ?_
    refine lv_icmp_ge (tgt := 159) hx hb dL_isZone_142 (by decide) (fun c9 => absurd c9 hc9.2) (fun _ => ?_)
    refine lv_iload_n hx hb dL_isZone_145 rfl (lv_at hl 1 rfl) ?_
    refine lv_aload_n hx hb dL_isZone_146 rfl (lv_at hl 3 rfl) ?_
    refine lv_iload_n hx hb dL_isZone_147 rfl (lv_at hl 4 rfl) ?_
    refine lv_iconst (v := nI 2) hx hb dL_isZone_148 (by decide +kernel) ?_
    refine kCallP_i (mc := 0) (ms := 0) (W1 := fun ρ : HS => wQ cI cZ cO x a t b q ρ) (fun _ _ h => h) hP hD hS hA (fun _ => rfl) (va_runV (As := [.int (nI z), .int (nI 2)]) (rest := [.int (qM q z 2)]) ⟨hx, hb, hml, hown, hts⟩ (c_X2_margin l D cI cZ cO cJ x a t b (qK q) (qHo q) (qσ q) (sT ρ) (sE ρ) (sD ρ) (sF ρ) (sS ρ) (sC ρ) (sL ρ) (qLo q) (qSe q) (qEf q) (qgp q) (qgi q) (qam q) (qli q) (qdl q) z 1 H.size (by omega) (by decide) hQ.la hQ.dl hQ.F) (cwV (rm := rmX2_margin) 2 hts gL_isZone_X2_margin rfl rfl rfl (by decide +kernel) ⟨Nat.le_of_ble_eq_true rfl, Nat.le_of_ble_eq_true rfl⟩) (kPreVW hK hN (pfP hP) (pfD hD) (va_recv hK (pfP hP) (ci := 2) (q0 := 0) rfl rfl)) rfl rfl hl.1 rfl (lv_room (Nat.le_of_ble_eq_true rfl)) dL_isZone_149 ⟨Nat.zero_le _, Nat.zero_le _⟩) (fun r9 ρ H locs hr9 hP hD hS => ?_)
    have hr9 : r9 = qM q z 1 := hr9
    subst hr9
    refine lv_icmp_gt (tgt := 159) hx hb dL_isZone_152 (by decide) (fun c9 => absurd c9 (Int32.not_lt.mpr (qM_dn hQ hz 1))) (fun _ => ?_)
    refine lv_iconst (v := nI 1) hx hb dL_isZone_155 (by decide +kernel) ?_
    refine lv_goto (tgt := 160) hx hb dL_isZone_156 (by decide) ?_
    subst hQ9
    subst hA9
    rw [List.append_nil] at hP
    exact kRetH_z ρ hx hb hr hlocks hP hS dL_isZone_160 rfl (by first | rfl | decide +kernel)

