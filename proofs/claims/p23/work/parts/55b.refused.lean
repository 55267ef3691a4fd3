abbrev rxL_isRefused : Room := { frames := 11, cells := 48, slots := 288, locals := 200 }
set_option maxHeartbeats 4000000 in
set_option maxRecDepth 100000 in
theorem c_L_isRefused_low (l : Launch) (hst : l.stackTraces = false) (D : va_G) (cI cZ cO cJ : ClassId) (x a t b : Nat → Nat) (q : QS) (ρ : HS) (ap : Nat) (pf : Nat → Int32) (B : Nat) (X : Nat) (sz : Nat) (hQ : QOK q) (hp : PR pf q B) (hX9 : X < 2147483648) (hl9 : X % 2 = 0) : kMH l yL_isRefused wsL_isRefused rxL_isRefused D (kT cI cZ cO cJ) [.ref (x 0), .ref ap, .int (nI X)] (wQ cI cZ cO x a t b q ρ ++ [(ap, .inl (cI, 6, .inl pf))]) (fun u : HS => wQ cI cZ cO x a t b q u ++ [(ap, .inl (cI, 6, .inl pf))]) 48 288 sz (nI 1) := by
  refine kEnterQ (cc := cL_isRefused) (maxL := 10) (ret := some .boolean) (by decide +kernel) rfl (Nat.le_of_ble_eq_true rfl) ?_
  intro p e s m below meth c args hx hb hr hml hts hown hlocks hK hN A hA9 Q hQ9 hP hD hsz hS hA hX hC ls hl
  have hl : lv_has ls 10 [(0, .ref (x 0)), (1, .ref ap), (2, .int (nI X))] := hl
  obtain ⟨H, hH9⟩ : ∃ H, H = s.heap := ⟨_, rfl⟩
  rw [← hH9] at hP ⊢
  have hS : va_S A s.heap H [] := by rw [hH9]; exact va_S.rf
  have hlocs : ∃ locs : List Loc, locs = [] := ⟨_, rfl⟩
  obtain ⟨locs, hlocs⟩ := hlocs
  rw [← hlocs] at hS ⊢
  refine lv_iload_n hx hb dL_isRefused_0 rfl (lv_at hl 2 rfl) ?_
  refine lv_iconst (v := nI 2) hx hb dL_isRefused_1 (by decide +kernel) ?_
  refine lv_irem hx hb dL_isRefused_2 (by decide +kernel) ?_
  refine k_as (y := nI (X % 2)) (nI_mod (by omega) (by decide) (by decide)) ?_
  refine k_as (y := nI 0) (congrArg nI hl9) ?_
  refine lv_if_ne (tgt := 10) hx hb dL_isRefused_3 (by decide) (fun c9 => absurd (by decide +kernel) c9) (fun _ => ?_)
  refine lv_iconst (v := nI 1) hx hb dL_isRefused_6 (by decide +kernel) ?_
  refine lv_goto (tgt := 11) hx hb dL_isRefused_7 (by decide) ?_
  refine lv_istore_n (lv' := [(3, .int (nI 1)), (0, .ref (x 0)), (1, .ref ap), (2, .int (nI X))]) hx hb dL_isRefused_11 rfl hl (by decide) rfl (fun ls hl => ?_)
  refine lv_iload_n hx hb dL_isRefused_12 rfl (lv_at hl 0 rfl) ?_
  refine lv_if_eq (tgt := 25) hx hb dL_isRefused_13 (by decide) (fun c9 => absurd c9 (by decide +kernel)) (fun _ => ?_)
  refine lv_iconst (v := (-1)) hx hb dL_isRefused_16 (by decide +kernel) ?_
  refine lv_iload_n hx hb dL_isRefused_17 rfl (lv_at hl 3 rfl) ?_
  refine lv_bipush (v := nI 30) hx hb dL_isRefused_18 (by decide +kernel) ?_
  refine lv_irem hx hb dL_isRefused_20 (by decide +kernel) ?_
  refine k_as (y := nI (X % 30)) (nI_mod (by omega) (by decide) (by decide)) ?_
  refine lv_isub hx hb dL_isRefused_21 ?_
  refine lv_goto (tgt := 32) hx hb dL_isRefused_22 (by decide) ?_
  obtain ⟨v6, e6⟩ : ∃ v : Int32, v = (-1) - (nI (X % 30)) := ⟨_, rfl⟩
  have h6 : ¬ inR v6 (nI 0) (nI 5) := by rw [e6]; exact neg_bad (by omega) (by decide)
  refine k_as (y := v6) e6.symm ?_
  refine lv_istore (lv' := [(4, .int v6), (3, .int (nI 1)), (0, .ref (x 0)), (1, .ref ap), (2, .int (nI X))]) hx hb dL_isRefused_32 hl (by decide) rfl (fun ls hl => ?_)
  refine lv_iload_n hx hb dL_isRefused_34 rfl (lv_at hl 1 rfl) ?_
  refine lv_if_eq (tgt := 47) hx hb dL_isRefused_35 (by decide) (fun c9 => absurd c9 (by decide +kernel)) (fun _ => ?_)
  refine lv_iconst (v := (-1)) hx hb dL_isRefused_38 (by decide +kernel) ?_
  refine lv_iload_n hx hb dL_isRefused_39 rfl (lv_at hl 4 rfl) ?_
  refine lv_bipush (v := nI 30) hx hb dL_isRefused_40 (by decide +kernel) ?_
  refine lv_irem hx hb dL_isRefused_42 (by decide +kernel) ?_
  refine k_as (y := nI (X % 30)) (nI_mod (by omega) (by decide) (by decide)) ?_
  refine lv_isub hx hb dL_isRefused_43 ?_
  refine lv_goto (tgt := 54) hx hb dL_isRefused_44 (by decide) ?_
  obtain ⟨v8, e8⟩ : ∃ v : Int32, v = (-1) - (nI (X % 30)) := ⟨_, rfl⟩
  have h8 : ¬ inR v8 (nI 0) (nI 7) := by rw [e8]; exact neg_bad (by omega) (by decide)
  refine k_as (y := v8) e8.symm ?_
  refine lv_istore (lv' := [(5, .int v8), (4, .int v6), (3, .int (nI 1)), (0, .ref (x 0)), (1, .ref ap), (2, .int (nI X))]) hx hb dL_isRefused_54 hl (by decide) rfl (fun ls hl => ?_)
  refine lv_aload_n hx hb dL_isRefused_56 rfl (lv_at hl 3 rfl) ?_
  refine kCallP_l (mc := 0) (ms := 0) (T := [(ap, .inl (cI, 6, .inl pf))]) (W1 := fun ρ : HS => wQ cI cZ cO x a t b q ρ) (fun _ _ h => h) hP hD hS hA (fun _ => rfl) (va_runS (As := [.ref (x 0)]) (rest := []) ⟨hx, hb, hml, hown, hts⟩ (c_L_all l D cI cZ cO cJ x a t b q ρ H.size hQ) (va_cwS (rm := rmL_all) 1 hts gL_isRefused_L_all rfl rfl rfl (by decide +kernel) ⟨Nat.le_of_ble_eq_true rfl, Nat.le_of_ble_eq_true rfl⟩) (kPreSHW hK hN hX hC (pfP hP) (pfD hD) hS (kfree (pfD hD) hS hA)) rfl rfl hl.1 rfl (lv_room (Nat.le_of_ble_eq_true rfl)) dL_isRefused_57 ⟨Nat.le_of_ble_eq_true rfl, Nat.le_of_ble_eq_true rfl⟩) (fun r9 ρ H locs hr9 hP hD hS => ?_)
  have hr9 : r9 = aF q 8 := hr9
  subst hr9
  refine lv_lstore (lv' := [(6, .long (aF q 8)), (5, .int v8), (4, .int v6), (3, .int (nI 1)), (0, .ref (x 0)), (1, .ref ap), (2, .int (nI X))]) hx hb dL_isRefused_60 hl (by decide) rfl (fun ls hl => ?_)
  refine lv_aload_n hx hb dL_isRefused_62 rfl (lv_at hl 4 rfl) ?_
  refine lv_iconst (v := nI 0) hx hb dL_isRefused_63 (by decide +kernel) ?_
  refine lv_iload hx hb dL_isRefused_64 (lv_at hl 2 rfl) ?_
  refine lv_iconst (v := nI 1) hx hb dL_isRefused_66 (by decide +kernel) ?_
  refine lv_iconst (v := nI 0) hx hb dL_isRefused_67 (by decide +kernel) ?_
  refine kCallP_i (mc := 1) (ms := 6) (T := [(ap, .inl (cI, 6, .inl pf))]) (W1 := fun ρ : HS => wQ cI cZ cO x a t b q ρ) (fun _ _ h => h) hP hD hS hA (fun _ => rfl) (vx_runSW (As := [.ref (x 0), .int (nI 0), .int v6, .int (nI 1), .int (nI 0)]) (rest := []) ⟨hx, hb, hml, hown, hts⟩ (c_L_set_setLoad_bad l hst D cI cZ cO cJ x a t b q ρ v6 (nI 1) (nI 0) H.size (fun g => h6 g.1)) (vx_cwSW (rm := rxL_set) 5 hts gL_isRefused_L_set rfl rfl rfl (by decide +kernel) ⟨Nat.le_of_ble_eq_true rfl, Nat.le_of_ble_eq_true rfl⟩) (kPreSHW hK hN hX hC (pfP hP) (pfD hD) hS (kfree (pfD hD) hS hA)) rfl rfl hl.1 rfl (lv_room (Nat.le_of_ble_eq_true rfl)) dL_isRefused_68 ⟨Nat.le_of_ble_eq_true rfl, Nat.le_of_ble_eq_true rfl⟩) (fun r9 ρ H locs hr9 hP hD hS => ?_)
  have hr9 : r9 = (-9000001) := hr9
  subst hr9
  refine W.widen (k := 1) (n := 6) (by decide) (by decide) ?_
  refine lv_ldc hx hb hown (hts (.constant RL 37 (-9000001)) (by decide +kernel)) dL_isRefused_71 ?_
  refine lv_icmp_ne (tgt := 273) hx hb dL_isRefused_73 (by decide) (fun c9 => absurd (by decide +kernel) c9) (fun _ => ?_)
  refine lv_aload_n hx hb dL_isRefused_76 rfl (lv_at hl 4 rfl) ?_
  refine lv_iconst (v := nI 0) hx hb dL_isRefused_77 (by decide +kernel) ?_
  refine lv_iconst (v := nI 3) hx hb dL_isRefused_78 (by decide +kernel) ?_
  refine lv_iload_n hx hb dL_isRefused_79 rfl (lv_at hl 3 rfl) ?_
  refine lv_if_eq (tgt := 87) hx hb dL_isRefused_80 (by decide) (fun c9 => absurd c9 (by decide +kernel)) (fun _ => ?_)
  refine lv_iconst (v := (-1)) hx hb dL_isRefused_83 (by decide +kernel) ?_
  refine lv_goto (tgt := 90) hx hb dL_isRefused_84 (by decide) ?_
  refine lv_iconst (v := nI 0) hx hb dL_isRefused_90 (by decide +kernel) ?_
  refine kCallP_i (mc := 1) (ms := 6) (T := [(ap, .inl (cI, 6, .inl pf))]) (W1 := fun ρ : HS => wQ cI cZ cO x a t b q ρ) (fun _ _ h => h) hP hD hS hA (fun _ => rfl) (vx_runSW (As := [.ref (x 0), .int (nI 0), .int (nI 3), .int (-1), .int (nI 0)]) (rest := []) ⟨hx, hb, hml, hown, hts⟩ (c_L_set_setLoad_bad l hst D cI cZ cO cJ x a t b q ρ (nI 3) (-1) (nI 0) H.size (by unfold inR; decide +kernel)) (vx_cwSW (rm := rxL_set) 5 hts gL_isRefused_L_set rfl rfl rfl (by decide +kernel) ⟨Nat.le_of_ble_eq_true rfl, Nat.le_of_ble_eq_true rfl⟩) (kPreSHW hK hN hX hC (pfP hP) (pfD hD) hS (kfree (pfD hD) hS hA)) rfl rfl hl.1 rfl (lv_room (Nat.le_of_ble_eq_true rfl)) dL_isRefused_91 ⟨Nat.le_of_ble_eq_true rfl, Nat.le_of_ble_eq_true rfl⟩) (fun r9 ρ H locs hr9 hP hD hS => ?_)
  have hr9 : r9 = (-9000001) := hr9
  subst hr9
  refine W.widen (k := 2) (n := 12) (by decide) (by decide) ?_
  refine lv_ldc hx hb hown (hts (.constant RL 37 (-9000001)) (by decide +kernel)) dL_isRefused_94 ?_
  refine lv_icmp_ne (tgt := 273) hx hb dL_isRefused_96 (by decide) (fun c9 => absurd (by decide +kernel) c9) (fun _ => ?_)
  refine lv_aload_n hx hb dL_isRefused_99 rfl (lv_at hl 4 rfl) ?_
  refine lv_iconst (v := nI 1) hx hb dL_isRefused_100 (by decide +kernel) ?_
  refine lv_iload hx hb dL_isRefused_101 (lv_at hl 2 rfl) ?_
  refine lv_sipush (v := nI 2000) hx hb dL_isRefused_103 (by decide +kernel) ?_
  refine lv_iconst (v := nI 0) hx hb dL_isRefused_106 (by decide +kernel) ?_
  refine kCallP_i (mc := 1) (ms := 6) (T := [(ap, .inl (cI, 6, .inl pf))]) (W1 := fun ρ : HS => wQ cI cZ cO x a t b q ρ) (fun _ _ h => h) hP hD hS hA (fun _ => rfl) (vx_runSW (As := [.ref (x 0), .int (nI 1), .int v6, .int (nI 2000), .int (nI 0)]) (rest := []) ⟨hx, hb, hml, hown, hts⟩ (c_L_set_setSetpoint_bad l hst D cI cZ cO cJ x a t b q ρ v6 (nI 2000) (nI 0) H.size (fun g => h6 g.1)) (vx_cwSW (rm := rxL_set) 5 hts gL_isRefused_L_set rfl rfl rfl (by decide +kernel) ⟨Nat.le_of_ble_eq_true rfl, Nat.le_of_ble_eq_true rfl⟩) (kPreSHW hK hN hX hC (pfP hP) (pfD hD) hS (kfree (pfD hD) hS hA)) rfl rfl hl.1 rfl (lv_room (Nat.le_of_ble_eq_true rfl)) dL_isRefused_107 ⟨Nat.le_of_ble_eq_true rfl, Nat.le_of_ble_eq_true rfl⟩) (fun r9 ρ H locs hr9 hP hD hS => ?_)
  have hr9 : r9 = (-9000001) := hr9
  subst hr9
  refine W.widen (k := 3) (n := 18) (by decide) (by decide) ?_
  refine lv_ldc hx hb hown (hts (.constant RL 37 (-9000001)) (by decide +kernel)) dL_isRefused_110 ?_
  refine lv_icmp_ne (tgt := 273) hx hb dL_isRefused_112 (by decide) (fun c9 => absurd (by decide +kernel) c9) (fun _ => ?_)
  refine lv_aload_n hx hb dL_isRefused_115 rfl (lv_at hl 4 rfl) ?_
  refine lv_iconst (v := nI 1) hx hb dL_isRefused_116 (by decide +kernel) ?_
  refine lv_iconst (v := nI 3) hx hb dL_isRefused_117 (by decide +kernel) ?_
  refine lv_iload_n hx hb dL_isRefused_118 rfl (lv_at hl 3 rfl) ?_
  refine lv_if_eq (tgt := 128) hx hb dL_isRefused_119 (by decide) (fun c9 => absurd c9 (by decide +kernel)) (fun _ => ?_)
  refine lv_sipush (v := nI 1499) hx hb dL_isRefused_122 (by decide +kernel) ?_
  refine lv_goto (tgt := 131) hx hb dL_isRefused_125 (by decide) ?_
  refine lv_iconst (v := nI 0) hx hb dL_isRefused_131 (by decide +kernel) ?_
  refine kCallP_i (mc := 1) (ms := 6) (T := [(ap, .inl (cI, 6, .inl pf))]) (W1 := fun ρ : HS => wQ cI cZ cO x a t b q ρ) (fun _ _ h => h) hP hD hS hA (fun _ => rfl) (vx_runSW (As := [.ref (x 0), .int (nI 1), .int (nI 3), .int (nI 1499), .int (nI 0)]) (rest := []) ⟨hx, hb, hml, hown, hts⟩ (c_L_set_setSetpoint_bad l hst D cI cZ cO cJ x a t b q ρ (nI 3) (nI 1499) (nI 0) H.size (by unfold inR; decide +kernel)) (vx_cwSW (rm := rxL_set) 5 hts gL_isRefused_L_set rfl rfl rfl (by decide +kernel) ⟨Nat.le_of_ble_eq_true rfl, Nat.le_of_ble_eq_true rfl⟩) (kPreSHW hK hN hX hC (pfP hP) (pfD hD) hS (kfree (pfD hD) hS hA)) rfl rfl hl.1 rfl (lv_room (Nat.le_of_ble_eq_true rfl)) dL_isRefused_132 ⟨Nat.le_of_ble_eq_true rfl, Nat.le_of_ble_eq_true rfl⟩) (fun r9 ρ H locs hr9 hP hD hS => ?_)
  have hr9 : r9 = (-9000001) := hr9
  subst hr9
  refine W.widen (k := 4) (n := 24) (by decide) (by decide) ?_
  refine lv_ldc hx hb hown (hts (.constant RL 37 (-9000001)) (by decide +kernel)) dL_isRefused_135 ?_
  refine lv_icmp_ne (tgt := 273) hx hb dL_isRefused_137 (by decide) (fun c9 => absurd (by decide +kernel) c9) (fun _ => ?_)
  refine lv_aload_n hx hb dL_isRefused_140 rfl (lv_at hl 4 rfl) ?_
  refine lv_iconst (v := nI 2) hx hb dL_isRefused_141 (by decide +kernel) ?_
  refine lv_iload hx hb dL_isRefused_142 (lv_at hl 1 rfl) ?_
  refine lv_iconst (v := nI 1) hx hb dL_isRefused_144 (by decide +kernel) ?_
  refine lv_iconst (v := nI 1) hx hb dL_isRefused_145 (by decide +kernel) ?_
  refine kCallP_i (mc := 1) (ms := 6) (T := [(ap, .inl (cI, 6, .inl pf))]) (W1 := fun ρ : HS => wQ cI cZ cO x a t b q ρ) (fun _ _ h => h) hP hD hS hA (fun _ => rfl) (vx_runSW (As := [.ref (x 0), .int (nI 2), .int v8, .int (nI 1), .int (nI 1)]) (rest := []) ⟨hx, hb, hml, hown, hts⟩ (c_L_set_setEffect_bad l hst D cI cZ cO cJ x a t b q ρ v8 (nI 1) (nI 1) H.size (fun g => h8 g.1)) (vx_cwSW (rm := rxL_set) 5 hts gL_isRefused_L_set rfl rfl rfl (by decide +kernel) ⟨Nat.le_of_ble_eq_true rfl, Nat.le_of_ble_eq_true rfl⟩) (kPreSHW hK hN hX hC (pfP hP) (pfD hD) hS (kfree (pfD hD) hS hA)) rfl rfl hl.1 rfl (lv_room (Nat.le_of_ble_eq_true rfl)) dL_isRefused_146 ⟨Nat.le_of_ble_eq_true rfl, Nat.le_of_ble_eq_true rfl⟩) (fun r9 ρ H locs hr9 hP hD hS => ?_)
  have hr9 : r9 = (-9000001) := hr9
  subst hr9
  refine W.widen (k := 5) (n := 30) (by decide) (by decide) ?_
  refine lv_ldc hx hb hown (hts (.constant RL 37 (-9000001)) (by decide +kernel)) dL_isRefused_149 ?_
  refine lv_icmp_ne (tgt := 273) hx hb dL_isRefused_151 (by decide) (fun c9 => absurd (by decide +kernel) c9) (fun _ => ?_)
  refine lv_aload_n hx hb dL_isRefused_154 rfl (lv_at hl 4 rfl) ?_
  refine lv_iconst (v := nI 2) hx hb dL_isRefused_155 (by decide +kernel) ?_
  refine lv_iconst (v := nI 1) hx hb dL_isRefused_156 (by decide +kernel) ?_
  refine lv_iload hx hb dL_isRefused_157 (lv_at hl 2 rfl) ?_
  refine lv_iconst (v := nI 1) hx hb dL_isRefused_159 (by decide +kernel) ?_
  refine kCallP_i (mc := 1) (ms := 6) (T := [(ap, .inl (cI, 6, .inl pf))]) (W1 := fun ρ : HS => wQ cI cZ cO x a t b q ρ) (fun _ _ h => h) hP hD hS hA (fun _ => rfl) (vx_runSW (As := [.ref (x 0), .int (nI 2), .int (nI 1), .int v6, .int (nI 1)]) (rest := []) ⟨hx, hb, hml, hown, hts⟩ (c_L_set_setEffect_bad l hst D cI cZ cO cJ x a t b q ρ (nI 1) v6 (nI 1) H.size (fun g => h6 g.2.1)) (vx_cwSW (rm := rxL_set) 5 hts gL_isRefused_L_set rfl rfl rfl (by decide +kernel) ⟨Nat.le_of_ble_eq_true rfl, Nat.le_of_ble_eq_true rfl⟩) (kPreSHW hK hN hX hC (pfP hP) (pfD hD) hS (kfree (pfD hD) hS hA)) rfl rfl hl.1 rfl (lv_room (Nat.le_of_ble_eq_true rfl)) dL_isRefused_160 ⟨Nat.le_of_ble_eq_true rfl, Nat.le_of_ble_eq_true rfl⟩) (fun r9 ρ H locs hr9 hP hD hS => ?_)
  have hr9 : r9 = (-9000001) := hr9
  subst hr9
  refine W.widen (k := 6) (n := 36) (by decide) (by decide) ?_
  refine lv_ldc hx hb hown (hts (.constant RL 37 (-9000001)) (by decide +kernel)) dL_isRefused_163 ?_
  refine lv_icmp_ne (tgt := 273) hx hb dL_isRefused_165 (by decide) (fun c9 => absurd (by decide +kernel) c9) (fun _ => ?_)
  refine lv_aload_n hx hb dL_isRefused_168 rfl (lv_at hl 4 rfl) ?_
  refine lv_iconst (v := nI 2) hx hb dL_isRefused_169 (by decide +kernel) ?_
  refine lv_iconst (v := nI 1) hx hb dL_isRefused_170 (by decide +kernel) ?_
  refine lv_iconst (v := nI 1) hx hb dL_isRefused_171 (by decide +kernel) ?_
  refine lv_iload_n hx hb dL_isRefused_172 rfl (lv_at hl 3 rfl) ?_
  refine lv_if_eq (tgt := 180) hx hb dL_isRefused_173 (by decide) (fun c9 => absurd c9 (by decide +kernel)) (fun _ => ?_)
  refine lv_iconst (v := (-1)) hx hb dL_isRefused_176 (by decide +kernel) ?_
  refine lv_goto (tgt := 182) hx hb dL_isRefused_177 (by decide) ?_
  refine kCallP_i (mc := 1) (ms := 6) (T := [(ap, .inl (cI, 6, .inl pf))]) (W1 := fun ρ : HS => wQ cI cZ cO x a t b q ρ) (fun _ _ h => h) hP hD hS hA (fun _ => rfl) (vx_runSW (As := [.ref (x 0), .int (nI 2), .int (nI 1), .int (nI 1), .int (-1)]) (rest := []) ⟨hx, hb, hml, hown, hts⟩ (c_L_set_setEffect_bad l hst D cI cZ cO cJ x a t b q ρ (nI 1) (nI 1) (-1) H.size (by unfold inR; decide +kernel)) (vx_cwSW (rm := rxL_set) 5 hts gL_isRefused_L_set rfl rfl rfl (by decide +kernel) ⟨Nat.le_of_ble_eq_true rfl, Nat.le_of_ble_eq_true rfl⟩) (kPreSHW hK hN hX hC (pfP hP) (pfD hD) hS (kfree (pfD hD) hS hA)) rfl rfl hl.1 rfl (lv_room (Nat.le_of_ble_eq_true rfl)) dL_isRefused_182 ⟨Nat.le_of_ble_eq_true rfl, Nat.le_of_ble_eq_true rfl⟩) (fun r9 ρ H locs hr9 hP hD hS => ?_)
  have hr9 : r9 = (-9000001) := hr9
  subst hr9
  refine W.widen (k := 7) (n := 42) (by decide) (by decide) ?_
  refine lv_ldc hx hb hown (hts (.constant RL 37 (-9000001)) (by decide +kernel)) dL_isRefused_185 ?_
  refine lv_icmp_ne (tgt := 273) hx hb dL_isRefused_187 (by decide) (fun c9 => absurd (by decide +kernel) c9) (fun _ => ?_)
  refine lv_aload_n hx hb dL_isRefused_190 rfl (lv_at hl 4 rfl) ?_
  refine lv_iconst (v := nI 3) hx hb dL_isRefused_191 (by decide +kernel) ?_
  refine lv_iload_n hx hb dL_isRefused_192 rfl (lv_at hl 3 rfl) ?_
  refine lv_if_eq (tgt := 200) hx hb dL_isRefused_193 (by decide) (fun c9 => absurd c9 (by decide +kernel)) (fun _ => ?_)
  refine lv_iconst (v := (-1)) hx hb dL_isRefused_196 (by decide +kernel) ?_
  refine lv_goto (tgt := 202) hx hb dL_isRefused_197 (by decide) ?_
  refine lv_iconst (v := nI 0) hx hb dL_isRefused_202 (by decide +kernel) ?_
  refine lv_iconst (v := nI 0) hx hb dL_isRefused_203 (by decide +kernel) ?_
  refine kCallP_i (mc := 1) (ms := 6) (T := [(ap, .inl (cI, 6, .inl pf))]) (W1 := fun ρ : HS => wQ cI cZ cO x a t b q ρ) (fun _ _ h => h) hP hD hS hA (fun _ => rfl) (vx_runSW (As := [.ref (x 0), .int (nI 3), .int (-1), .int (nI 0), .int (nI 0)]) (rest := []) ⟨hx, hb, hml, hown, hts⟩ (c_L_set_setDelay_bad l hst D cI cZ cO cJ x a t b q ρ (-1) (nI 0) (nI 0) H.size (by unfold inR; decide +kernel)) (vx_cwSW (rm := rxL_set) 5 hts gL_isRefused_L_set rfl rfl rfl (by decide +kernel) ⟨Nat.le_of_ble_eq_true rfl, Nat.le_of_ble_eq_true rfl⟩) (kPreSHW hK hN hX hC (pfP hP) (pfD hD) hS (kfree (pfD hD) hS hA)) rfl rfl hl.1 rfl (lv_room (Nat.le_of_ble_eq_true rfl)) dL_isRefused_204 ⟨Nat.le_of_ble_eq_true rfl, Nat.le_of_ble_eq_true rfl⟩) (fun r9 ρ H locs hr9 hP hD hS => ?_)
  have hr9 : r9 = (-9000001) := hr9
  subst hr9
  refine W.widen (k := 8) (n := 48) (by decide) (by decide) ?_
  refine lv_ldc hx hb hown (hts (.constant RL 37 (-9000001)) (by decide +kernel)) dL_isRefused_207 ?_
  refine lv_icmp_ne (tgt := 273) hx hb dL_isRefused_209 (by decide) (fun c9 => absurd (by decide +kernel) c9) (fun _ => ?_)
  refine lv_aload_n hx hb dL_isRefused_212 rfl (lv_at hl 4 rfl) ?_
  refine lv_iconst (v := nI 4) hx hb dL_isRefused_213 (by decide +kernel) ?_
  refine lv_iload hx hb dL_isRefused_214 (lv_at hl 1 rfl) ?_
  refine lv_iconst (v := nI 0) hx hb dL_isRefused_216 (by decide +kernel) ?_
  refine lv_iconst (v := nI 0) hx hb dL_isRefused_217 (by decide +kernel) ?_
  refine kCallP_i (mc := 1) (ms := 6) (T := [(ap, .inl (cI, 6, .inl pf))]) (W1 := fun ρ : HS => wQ cI cZ cO x a t b q ρ) (fun _ _ h => h) hP hD hS hA (fun _ => rfl) (vx_runSW (As := [.ref (x 0), .int (nI 4), .int v8, .int (nI 0), .int (nI 0)]) (rest := []) ⟨hx, hb, hml, hown, hts⟩ (c_L_set_fail_bad l hst D cI cZ cO cJ x a t b q ρ v8 (nI 0) (nI 0) H.size h8) (vx_cwSW (rm := rxL_set) 5 hts gL_isRefused_L_set rfl rfl rfl (by decide +kernel) ⟨Nat.le_of_ble_eq_true rfl, Nat.le_of_ble_eq_true rfl⟩) (kPreSHW hK hN hX hC (pfP hP) (pfD hD) hS (kfree (pfD hD) hS hA)) rfl rfl hl.1 rfl (lv_room (Nat.le_of_ble_eq_true rfl)) dL_isRefused_218 ⟨Nat.le_of_ble_eq_true rfl, Nat.le_of_ble_eq_true rfl⟩) (fun r9 ρ H locs hr9 hP hD hS => ?_)
  have hr9 : r9 = (-9000001) := hr9
  subst hr9
  refine W.widen (k := 9) (n := 54) (by decide) (by decide) ?_
  refine lv_ldc hx hb hown (hts (.constant RL 37 (-9000001)) (by decide +kernel)) dL_isRefused_221 ?_
  refine lv_icmp_ne (tgt := 273) hx hb dL_isRefused_223 (by decide) (fun c9 => absurd (by decide +kernel) c9) (fun _ => ?_)
  refine lv_aload_n hx hb dL_isRefused_226 rfl (lv_at hl 4 rfl) ?_
  refine lv_iconst (v := nI 5) hx hb dL_isRefused_227 (by decide +kernel) ?_
  refine lv_iload hx hb dL_isRefused_228 (lv_at hl 1 rfl) ?_
  refine lv_iconst (v := nI 0) hx hb dL_isRefused_230 (by decide +kernel) ?_
  refine lv_iconst (v := nI 0) hx hb dL_isRefused_231 (by decide +kernel) ?_
  refine kCallP_i (mc := 1) (ms := 6) (T := [(ap, .inl (cI, 6, .inl pf))]) (W1 := fun ρ : HS => wQ cI cZ cO x a t b q ρ) (fun _ _ h => h) hP hD hS hA (fun _ => rfl) (vx_runSW (As := [.ref (x 0), .int (nI 5), .int v8, .int (nI 0), .int (nI 0)]) (rest := []) ⟨hx, hb, hml, hown, hts⟩ (c_L_set_repair_bad l hst D cI cZ cO cJ x a t b q ρ v8 (nI 0) (nI 0) H.size h8) (vx_cwSW (rm := rxL_set) 5 hts gL_isRefused_L_set rfl rfl rfl (by decide +kernel) ⟨Nat.le_of_ble_eq_true rfl, Nat.le_of_ble_eq_true rfl⟩) (kPreSHW hK hN hX hC (pfP hP) (pfD hD) hS (kfree (pfD hD) hS hA)) rfl rfl hl.1 rfl (lv_room (Nat.le_of_ble_eq_true rfl)) dL_isRefused_232 ⟨Nat.le_of_ble_eq_true rfl, Nat.le_of_ble_eq_true rfl⟩) (fun r9 ρ H locs hr9 hP hD hS => ?_)
  have hr9 : r9 = (-9000001) := hr9
  subst hr9
  refine W.widen (k := 10) (n := 60) (by decide) (by decide) ?_
  refine lv_ldc hx hb hown (hts (.constant RL 37 (-9000001)) (by decide +kernel)) dL_isRefused_235 ?_
  refine lv_icmp_ne (tgt := 273) hx hb dL_isRefused_237 (by decide) (fun c9 => absurd (by decide +kernel) c9) (fun _ => ?_)
  refine lv_aload_n hx hb dL_isRefused_240 rfl (lv_at hl 4 rfl) ?_
  refine lv_bipush (v := nI 6) hx hb dL_isRefused_241 (by decide +kernel) ?_
  refine lv_iload_n hx hb dL_isRefused_243 rfl (lv_at hl 3 rfl) ?_
  refine lv_if_eq (tgt := 256) hx hb dL_isRefused_244 (by decide) (fun c9 => absurd c9 (by decide +kernel)) (fun _ => ?_)
  refine lv_iconst (v := nI 0) hx hb dL_isRefused_247 (by decide +kernel) ?_
  refine lv_iload_n hx hb dL_isRefused_248 rfl (lv_at hl 6 rfl) ?_
  refine lv_bipush (v := nI 30) hx hb dL_isRefused_249 (by decide +kernel) ?_
  refine lv_irem hx hb dL_isRefused_251 (by decide +kernel) ?_
  refine k_as (y := nI (X % 30)) (nI_mod (by omega) (by decide) (by decide)) ?_
  refine lv_isub hx hb dL_isRefused_252 ?_
  refine lv_goto (tgt := 259) hx hb dL_isRefused_253 (by decide) ?_
  have h30 : ¬ inR ((nI 0) - (nI (X % 30))) (nI 1) (nI 300) := neg_bad1 (by omega)
  refine lv_iconst (v := nI 0) hx hb dL_isRefused_259 (by decide +kernel) ?_
  refine lv_iconst (v := nI 0) hx hb dL_isRefused_260 (by decide +kernel) ?_
  refine kCallP_i (mc := 1) (ms := 6) (T := [(ap, .inl (cI, 6, .inl pf))]) (W1 := fun ρ : HS => wQ cI cZ cO x a t b q ρ) (fun _ _ h => h) hP hD hS hA (fun _ => rfl) (vx_runSW (As := [.ref (x 0), .int (nI 6), .int ((nI 0) - (nI (X % 30))), .int (nI 0), .int (nI 0)]) (rest := []) ⟨hx, hb, hml, hown, hts⟩ (c_L_set_pass_bad l hst D cI cZ cO cJ x a t b q ρ ((nI 0) - (nI (X % 30))) (nI 0) (nI 0) H.size h30) (vx_cwSW (rm := rxL_set) 5 hts gL_isRefused_L_set rfl rfl rfl (by decide +kernel) ⟨Nat.le_of_ble_eq_true rfl, Nat.le_of_ble_eq_true rfl⟩) (kPreSHW hK hN hX hC (pfP hP) (pfD hD) hS (kfree (pfD hD) hS hA)) rfl rfl hl.1 rfl (lv_room (Nat.le_of_ble_eq_true rfl)) dL_isRefused_261 ⟨Nat.le_of_ble_eq_true rfl, Nat.le_of_ble_eq_true rfl⟩) (fun r9 ρ H locs hr9 hP hD hS => ?_)
  have hr9 : r9 = (-9000001) := hr9
  subst hr9
  refine W.widen (k := 11) (n := 66) (by decide) (by decide) ?_
  refine lv_ldc hx hb hown (hts (.constant RL 37 (-9000001)) (by decide +kernel)) dL_isRefused_264 ?_
  refine lv_icmp_ne (tgt := 273) hx hb dL_isRefused_266 (by decide) (fun c9 => absurd (by decide +kernel) c9) (fun _ => ?_)
  refine lv_iconst (v := nI 1) hx hb dL_isRefused_269 (by decide +kernel) ?_
  refine lv_goto (tgt := 274) hx hb dL_isRefused_270 (by decide) ?_
  refine lv_istore (lv' := [(8, .int (nI 1)), (6, .long (aF q 8)), (5, .int v8), (4, .int v6), (3, .int (nI 1)), (0, .ref (x 0)), (1, .ref ap), (2, .int (nI X))]) hx hb dL_isRefused_274 hl (by decide) rfl (fun ls hl => ?_)
  refine lv_iload hx hb dL_isRefused_276 (lv_at hl 0 rfl) ?_
  refine lv_if_eq (tgt := 377) hx hb dL_isRefused_278 (by decide) (fun c9 => absurd c9 (by decide +kernel)) (fun _ => ?_)
  refine lv_aload_n hx hb dL_isRefused_281 rfl (lv_at hl 5 rfl) ?_
  refine lv_iload_n hx hb dL_isRefused_282 rfl (lv_at hl 4 rfl) ?_
  refine lv_if_eq (tgt := 290) hx hb dL_isRefused_283 (by decide) (fun c9 => absurd c9 (by decide +kernel)) (fun _ => ?_)
  refine lv_iconst (v := (-1)) hx hb dL_isRefused_286 (by decide +kernel) ?_
  refine lv_goto (tgt := 293) hx hb dL_isRefused_287 (by decide) ?_
  refine lv_iconst (v := nI 5) hx hb dL_isRefused_293 (by decide +kernel) ?_
  refine kCallP_i (mc := 1) (ms := 6) (T := [(ap, .inl (cI, 6, .inl pf))]) (W1 := fun ρ : HS => wQ cI cZ cO x a t b q ρ) (fun _ _ h => h) hP hD hS hA (fun _ => rfl) (vx_runSW (As := [.ref (x 0), .int (-1), .int (nI 5)]) (rest := []) ⟨hx, hb, hml, hown, hts⟩ (c_L_setGains_bad l hst D cI cZ cO cJ x a t b q ρ (-1) (nI 5) H.size (by unfold inR; decide +kernel)) (vx_cwSW (rm := rxL_setGains) 3 hts gL_isRefused_L_setGains rfl rfl rfl (by decide +kernel) ⟨Nat.le_of_ble_eq_true rfl, Nat.le_of_ble_eq_true rfl⟩) (kPreSHW hK hN hX hC (pfP hP) (pfD hD) hS (kfree (pfD hD) hS hA)) rfl rfl hl.1 rfl (lv_room (Nat.le_of_ble_eq_true rfl)) dL_isRefused_294 ⟨Nat.le_of_ble_eq_true rfl, Nat.le_of_ble_eq_true rfl⟩) (fun r9 ρ H locs hr9 hP hD hS => ?_)
  have hr9 : r9 = (-9000001) := hr9
  subst hr9
  refine W.widen (k := 12) (n := 72) (by decide) (by decide) ?_
  refine lv_ldc hx hb hown (hts (.constant RL 37 (-9000001)) (by decide +kernel)) dL_isRefused_297 ?_
  refine lv_icmp_ne (tgt := 377) hx hb dL_isRefused_299 (by decide) (fun c9 => absurd (by decide +kernel) c9) (fun _ => ?_)
  refine lv_aload_n hx hb dL_isRefused_302 rfl (lv_at hl 5 rfl) ?_
  refine lv_iconst (v := nI 5) hx hb dL_isRefused_303 (by decide +kernel) ?_
  refine lv_iload_n hx hb dL_isRefused_304 rfl (lv_at hl 4 rfl) ?_
  refine lv_if_eq (tgt := 312) hx hb dL_isRefused_305 (by decide) (fun c9 => absurd c9 (by decide +kernel)) (fun _ => ?_)
  refine lv_iconst (v := (-1)) hx hb dL_isRefused_308 (by decide +kernel) ?_
  refine lv_goto (tgt := 315) hx hb dL_isRefused_309 (by decide) ?_
  refine kCallP_i (mc := 1) (ms := 6) (T := [(ap, .inl (cI, 6, .inl pf))]) (W1 := fun ρ : HS => wQ cI cZ cO x a t b q ρ) (fun _ _ h => h) hP hD hS hA (fun _ => rfl) (vx_runSW (As := [.ref (x 0), .int (nI 5), .int (-1)]) (rest := []) ⟨hx, hb, hml, hown, hts⟩ (c_L_setGains_bad l hst D cI cZ cO cJ x a t b q ρ (nI 5) (-1) H.size (by unfold inR; decide +kernel)) (vx_cwSW (rm := rxL_setGains) 3 hts gL_isRefused_L_setGains rfl rfl rfl (by decide +kernel) ⟨Nat.le_of_ble_eq_true rfl, Nat.le_of_ble_eq_true rfl⟩) (kPreSHW hK hN hX hC (pfP hP) (pfD hD) hS (kfree (pfD hD) hS hA)) rfl rfl hl.1 rfl (lv_room (Nat.le_of_ble_eq_true rfl)) dL_isRefused_315 ⟨Nat.le_of_ble_eq_true rfl, Nat.le_of_ble_eq_true rfl⟩) (fun r9 ρ H locs hr9 hP hD hS => ?_)
  have hr9 : r9 = (-9000001) := hr9
  subst hr9
  refine W.widen (k := 13) (n := 78) (by decide) (by decide) ?_
  refine lv_ldc hx hb hown (hts (.constant RL 37 (-9000001)) (by decide +kernel)) dL_isRefused_318 ?_
  refine lv_icmp_ne (tgt := 377) hx hb dL_isRefused_320 (by decide) (fun c9 => absurd (by decide +kernel) c9) (fun _ => ?_)
  refine lv_aload_n hx hb dL_isRefused_323 rfl (lv_at hl 5 rfl) ?_
  refine lv_iload_n hx hb dL_isRefused_324 rfl (lv_at hl 4 rfl) ?_
  refine lv_if_eq (tgt := 334) hx hb dL_isRefused_325 (by decide) (fun c9 => absurd c9 (by decide +kernel)) (fun _ => ?_)
  refine lv_sipush (v := nI 999) hx hb dL_isRefused_328 (by decide +kernel) ?_
  refine lv_goto (tgt := 337) hx hb dL_isRefused_331 (by decide) ?_
  refine lv_sipush (v := nI 2000) hx hb dL_isRefused_337 (by decide +kernel) ?_
  refine kCallP_i (mc := 1) (ms := 6) (T := [(ap, .inl (cI, 6, .inl pf))]) (W1 := fun ρ : HS => wQ cI cZ cO x a t b q ρ) (fun _ _ h => h) hP hD hS hA (fun _ => rfl) (vx_runSW (As := [.ref (x 0), .int (nI 999), .int (nI 2000)]) (rest := []) ⟨hx, hb, hml, hown, hts⟩ (c_L_setHall_bad l hst D cI cZ cO cJ x a t b q ρ (nI 999) (nI 2000) H.size (by unfold inR; decide +kernel)) (vx_cwSW (rm := rxL_setHall) 3 hts gL_isRefused_L_setHall rfl rfl rfl (by decide +kernel) ⟨Nat.le_of_ble_eq_true rfl, Nat.le_of_ble_eq_true rfl⟩) (kPreSHW hK hN hX hC (pfP hP) (pfD hD) hS (kfree (pfD hD) hS hA)) rfl rfl hl.1 rfl (lv_room (Nat.le_of_ble_eq_true rfl)) dL_isRefused_340 ⟨Nat.le_of_ble_eq_true rfl, Nat.le_of_ble_eq_true rfl⟩) (fun r9 ρ H locs hr9 hP hD hS => ?_)
  have hr9 : r9 = (-9000001) := hr9
  subst hr9
  refine W.widen (k := 14) (n := 84) (by decide) (by decide) ?_
  refine lv_ldc hx hb hown (hts (.constant RL 37 (-9000001)) (by decide +kernel)) dL_isRefused_343 ?_
  refine lv_icmp_ne (tgt := 377) hx hb dL_isRefused_345 (by decide) (fun c9 => absurd (by decide +kernel) c9) (fun _ => ?_)
  refine lv_aload_n hx hb dL_isRefused_348 rfl (lv_at hl 5 rfl) ?_
  refine lv_sipush (v := nI 2000) hx hb dL_isRefused_349 (by decide +kernel) ?_
  refine lv_iload_n hx hb dL_isRefused_352 rfl (lv_at hl 4 rfl) ?_
  refine lv_if_eq (tgt := 362) hx hb dL_isRefused_353 (by decide) (fun c9 => absurd c9 (by decide +kernel)) (fun _ => ?_)
  refine lv_sipush (v := nI 999) hx hb dL_isRefused_356 (by decide +kernel) ?_
  refine lv_goto (tgt := 365) hx hb dL_isRefused_359 (by decide) ?_
  refine kCallP_i (mc := 1) (ms := 6) (T := [(ap, .inl (cI, 6, .inl pf))]) (W1 := fun ρ : HS => wQ cI cZ cO x a t b q ρ) (fun _ _ h => h) hP hD hS hA (fun _ => rfl) (vx_runSW (As := [.ref (x 0), .int (nI 2000), .int (nI 999)]) (rest := []) ⟨hx, hb, hml, hown, hts⟩ (c_L_setHall_bad l hst D cI cZ cO cJ x a t b q ρ (nI 2000) (nI 999) H.size (by unfold inR; decide +kernel)) (vx_cwSW (rm := rxL_setHall) 3 hts gL_isRefused_L_setHall rfl rfl rfl (by decide +kernel) ⟨Nat.le_of_ble_eq_true rfl, Nat.le_of_ble_eq_true rfl⟩) (kPreSHW hK hN hX hC (pfP hP) (pfD hD) hS (kfree (pfD hD) hS hA)) rfl rfl hl.1 rfl (lv_room (Nat.le_of_ble_eq_true rfl)) dL_isRefused_365 ⟨Nat.le_of_ble_eq_true rfl, Nat.le_of_ble_eq_true rfl⟩) (fun r9 ρ H locs hr9 hP hD hS => ?_)
  have hr9 : r9 = (-9000001) := hr9
  subst hr9
  refine W.widen (k := 15) (n := 90) (by decide) (by decide) ?_
  refine lv_ldc hx hb hown (hts (.constant RL 37 (-9000001)) (by decide +kernel)) dL_isRefused_368 ?_
  refine lv_icmp_ne (tgt := 377) hx hb dL_isRefused_370 (by decide) (fun c9 => absurd (by decide +kernel) c9) (fun _ => ?_)
  refine lv_iconst (v := nI 1) hx hb dL_isRefused_373 (by decide +kernel) ?_
  refine lv_goto (tgt := 378) hx hb dL_isRefused_374 (by decide) ?_
  refine lv_istore (lv' := [(8, .int (nI 1)), (6, .long (aF q 8)), (5, .int v8), (4, .int v6), (3, .int (nI 1)), (0, .ref (x 0)), (1, .ref ap), (2, .int (nI X))]) hx hb dL_isRefused_378 hl (by decide) rfl (fun ls hl => ?_)
  refine lv_iconst (v := nI 0) hx hb dL_isRefused_380 (by decide +kernel) ?_
  refine lv_istore (lv' := [(9, .int (nI 0)), (8, .int (nI 1)), (6, .long (aF q 8)), (5, .int v8), (4, .int v6), (3, .int (nI 1)), (0, .ref (x 0)), (1, .ref ap), (2, .int (nI X))]) hx hb dL_isRefused_381 hl (by decide) rfl (fun ls hl => ?_)
  have lp : ∀ (n z : Nat), z + n = 9 → ∀ ρ : HS, ∀ (H : Heap) (locs : List Loc), va_P D vwCl (wQ cI cZ cO x a t b q ρ ++ [(ap, .inl (cI, 6, .inl pf))]) H → va_D A (wQ cI cZ cO x a t b q ρ ++ [(ap, .inl (cI, 6, .inl pf))]) → va_S A s.heap H locs → ∀ ls : Array Slot, lv_has ls 10 [(0, .ref (x 0)), (1, .ref ap), (3, .int (nI 1)), (4, .int v6), (5, .int v8), (6, .long (aF q 8)), (8, .int (nI 1)), (9, .int (nI z))] → W p l e rxL_isRefused s m args below meth c H locs (15 + 2 * z) (90 + 12 * z) Q (F0 m 383 ls []) := by
    intro n
    induction n with
    | zero =>
      intro z hz9 ρ H locs hP hD hS ls hl
      have hz9 : z = 9 := by omega
      subst hz9
      refine lv_iload hx hb dL_isRefused_383 (lv_at hl 7 rfl) ?_
      refine lv_bipush (v := nI 9) hx hb dL_isRefused_385 (by decide +kernel) ?_
      refine lv_icmp_ge (tgt := 462) hx hb dL_isRefused_387 (by decide) (fun _ => ?_) (fun c9 => absurd (nI_le (Nat.le_refl 9) (by decide)) c9)
      refine lv_iconst (v := nI 0) hx hb dL_isRefused_462 (by decide +kernel) ?_
      refine lv_istore (lv' := [(9, .int (nI 0)), (0, .ref (x 0)), (1, .ref ap), (3, .int (nI 1)), (4, .int v6), (5, .int v8), (6, .long (aF q 8)), (8, .int (nI 1))]) hx hb dL_isRefused_463 hl (by decide) rfl (fun ls hl => ?_)
      have lq : ∀ (n2 z2 : Nat), z2 + n2 = 8 → ∀ ρ : HS, ∀ (H : Heap) (locs : List Loc), va_P D vwCl (wQ cI cZ cO x a t b q ρ ++ [(ap, .inl (cI, 6, .inl pf))]) H → va_D A (wQ cI cZ cO x a t b q ρ ++ [(ap, .inl (cI, 6, .inl pf))]) → va_S A s.heap H locs → ∀ ls : Array Slot, lv_has ls 10 [(0, .ref (x 0)), (1, .ref ap), (3, .int (nI 1)), (4, .int v6), (5, .int v8), (6, .long (aF q 8)), (8, .int (nI 1)), (9, .int (nI z2))] → W p l e rxL_isRefused s m args below meth c H locs (33 + z2) (198 + 6 * z2) Q (F0 m 465 ls []) := by
        intro n2
        induction n2 with
        | zero =>
          intro z2 hz9 ρ H locs hP hD hS ls hl
          have hz9 : z2 = 8 := by omega
          subst hz9
          refine lv_iload hx hb dL_isRefused_465 (lv_at hl 7 rfl) ?_
          refine lv_bipush (v := nI 8) hx hb dL_isRefused_467 (by decide +kernel) ?_
          refine lv_icmp_ge (tgt := 519) hx hb dL_isRefused_469 (by decide) (fun _ => ?_) (fun c9 => absurd (nI_le (Nat.le_refl 8) (by decide)) c9)
          refine lv_iload hx hb dL_isRefused_519 (lv_at hl 6 rfl) ?_
          refine lv_if_eq (tgt := 538) hx hb dL_isRefused_521 (by decide) (fun c9 => absurd c9 (by decide +kernel)) (fun _ => ?_)
          refine lv_aload_n hx hb dL_isRefused_524 rfl (lv_at hl 0 rfl) ?_
          refine kCallP_l (mc := 0) (ms := 0) (T := [(ap, .inl (cI, 6, .inl pf))]) (W1 := fun ρ : HS => wQ cI cZ cO x a t b q ρ) (fun _ _ h => h) hP hD hS hA (fun _ => rfl) (va_runS (As := [.ref (x 0)]) (rest := []) ⟨hx, hb, hml, hown, hts⟩ (c_L_all l D cI cZ cO cJ x a t b q ρ H.size hQ) (va_cwS (rm := rmL_all) 1 hts gL_isRefused_L_all rfl rfl rfl (by decide +kernel) ⟨Nat.le_of_ble_eq_true rfl, Nat.le_of_ble_eq_true rfl⟩) (kPreSHW hK hN hX hC (pfP hP) (pfD hD) hS (kfree (pfD hD) hS hA)) rfl rfl hl.1 rfl (lv_room (Nat.le_of_ble_eq_true rfl)) dL_isRefused_525 ⟨Nat.le_of_ble_eq_true rfl, Nat.le_of_ble_eq_true rfl⟩) (fun r9 ρ H locs hr9 hP hD hS => ?_)
          have hr9 : r9 = aF q 8 := hr9
          subst hr9
          refine lv_lload hx hb dL_isRefused_528 (lv_at hl 5 rfl) ?_
          refine k_lcmp0 rfl hx hb dL_isRefused_530 ?_
          refine lv_if_ne (tgt := 538) hx hb dL_isRefused_531 (by decide) (fun c9 => absurd (by decide +kernel) c9) (fun _ => ?_)
          refine lv_iconst (v := nI 1) hx hb dL_isRefused_534 (by decide +kernel) ?_
          refine lv_goto (tgt := 539) hx hb dL_isRefused_535 (by decide) ?_
          refine W.widen (k := 48) (n := 288) (by decide) (by decide) ?_
          subst hQ9
          subst hA9
          exact kRetH_z ρ hx hb hr hlocks hP hS dL_isRefused_539 rfl (by first | rfl | decide +kernel)
        | succ n2 ih2 =>
          intro z2 hz9 ρ H locs hP hD hS ls hl
          have hzb : z2 < 8 := by omega
          refine lv_iload hx hb dL_isRefused_465 (lv_at hl 7 rfl) ?_
          refine lv_bipush (v := nI 8) hx hb dL_isRefused_467 (by decide +kernel) ?_
          refine lv_icmp_ge (tgt := 519) hx hb dL_isRefused_469 (by decide) (fun c9 => absurd c9 (nI_ge hzb (by decide))) (fun _ => ?_)
          refine lv_iload hx hb dL_isRefused_472 (lv_at hl 6 rfl) ?_
          refine lv_if_eq (tgt := 519) hx hb dL_isRefused_474 (by decide) (fun c9 => absurd c9 (by decide +kernel)) (fun _ => ?_)
          refine lv_aload_n hx hb dL_isRefused_477 rfl (lv_at hl 0 rfl) ?_
          refine lv_aload_n hx hb dL_isRefused_478 rfl (lv_at hl 1 rfl) ?_
          refine lv_iconst (v := nI 5) hx hb dL_isRefused_479 (by decide +kernel) ?_
          refine k_ialdT hx hb hK hP 0 0 rfl rfl (i := 5) (by decide) (by decide) dL_isRefused_480 ?_
          refine lv_iload hx hb dL_isRefused_481 (lv_at hl 7 rfl) ?_
          refine lv_ishr hx hb dL_isRefused_483 ?_
          refine lv_iconst (v := nI 1) hx hb dL_isRefused_484 (by decide +kernel) ?_
          refine lv_iand hx hb dL_isRefused_485 ?_
          refine k_as (y := sF (qσ q) z2) (hp.bit (by omega)) ?_
          refine lv_if_ne (tgt := 493) hx hb dL_isRefused_486 (by decide) (fun c3 => ?_) (fun c3 => ?_)
          · refine lv_iconst (v := nI 4) hx hb dL_isRefused_493 (by decide +kernel) ?_
            refine lv_iload hx hb dL_isRefused_494 (lv_at hl 7 rfl) ?_
            refine lv_iconst (v := nI 0) hx hb dL_isRefused_496 (by decide +kernel) ?_
            refine lv_iconst (v := nI 0) hx hb dL_isRefused_497 (by decide +kernel) ?_
            refine kCallP_i (mc := 1) (ms := 6) (T := [(ap, .inl (cI, 6, .inl pf))]) (W1 := fun ρ : HS => wQ cI cZ cO x a t b q ρ) (fun _ _ h => h) hP hD hS hA (fun _ => rfl) (vx_runSW (As := [.ref (x 0), .int (nI 4), .int (nI z2), .int (nI 0), .int (nI 0)]) (rest := []) ⟨hx, hb, hml, hown, hts⟩ (c_L_set_fail_two l hst D cI cZ cO cJ x a t b q ρ z2 (nI 0) (nI 0) H.size (by omega) c3) (vx_cwSW (rm := rxL_set) 5 hts gL_isRefused_L_set rfl rfl rfl (by decide +kernel) ⟨Nat.le_of_ble_eq_true rfl, Nat.le_of_ble_eq_true rfl⟩) (kPreSHW hK hN hX hC (pfP hP) (pfD hD) hS (kfree (pfD hD) hS hA)) rfl rfl hl.1 rfl (lv_room (Nat.le_of_ble_eq_true rfl)) dL_isRefused_498 ⟨by show _ ≤ 48; omega, by show _ ≤ 288; omega⟩) (fun r9 ρ H locs hr9 hP hD hS => ?_)
            have hr9 : r9 = (-9000002) := hr9
            subst hr9
            refine W.widen (k := 33 + z2 + 1) (n := 198 + 6 * z2 + 6) (by omega) (by omega) ?_
            refine lv_ldc hx hb hown (hts (.constant RL 40 (-9000002)) (by decide +kernel)) dL_isRefused_501 ?_
            refine lv_icmp_ne (tgt := 510) hx hb dL_isRefused_503 (by decide) (fun c9 => absurd (by decide +kernel) c9) (fun _ => ?_)
            refine lv_iconst (v := nI 1) hx hb dL_isRefused_506 (by decide +kernel) ?_
            refine lv_goto (tgt := 511) hx hb dL_isRefused_507 (by decide) ?_
            refine lv_istore (lv' := [(8, .int (nI 1)), (0, .ref (x 0)), (1, .ref ap), (3, .int (nI 1)), (4, .int v6), (5, .int v8), (6, .long (aF q 8)), (9, .int (nI z2))]) hx hb dL_isRefused_511 hl (by decide) rfl (fun ls hl => ?_)
            refine lv_iinc (v := nI (z2 + 1)) (lv' := [(9, .int (nI (z2 + 1))), (8, .int (nI 1)), (0, .ref (x 0)), (1, .ref ap), (3, .int (nI 1)), (4, .int v6), (5, .int v8), (6, .long (aF q 8))]) hx hb dL_isRefused_513 hl (k := 7) rfl (k_inc _) (by decide) rfl (fun ls hl => ?_)
            refine lv_goto (tgt := 465) hx hb dL_isRefused_516 (by decide) ?_
            refine W.widen (k := 33 + (z2 + 1)) (n := 198 + 6 * (z2 + 1)) (by omega) (by omega) ?_
            exact ih2 (z2 + 1) (by omega) ρ H locs hP hD hS ls (lv_sub hl [2, 3, 4, 5, 6, 7, 1, 0] rfl)
          · refine lv_iconst (v := nI 5) hx hb dL_isRefused_489 (by decide +kernel) ?_
            refine lv_goto (tgt := 494) hx hb dL_isRefused_490 (by decide) ?_
            refine lv_iload hx hb dL_isRefused_494 (lv_at hl 7 rfl) ?_
            refine lv_iconst (v := nI 0) hx hb dL_isRefused_496 (by decide +kernel) ?_
            refine lv_iconst (v := nI 0) hx hb dL_isRefused_497 (by decide +kernel) ?_
            refine kCallP_i (mc := 1) (ms := 6) (T := [(ap, .inl (cI, 6, .inl pf))]) (W1 := fun ρ : HS => wQ cI cZ cO x a t b q ρ) (fun _ _ h => h) hP hD hS hA (fun _ => rfl) (vx_runSW (As := [.ref (x 0), .int (nI 5), .int (nI z2), .int (nI 0), .int (nI 0)]) (rest := []) ⟨hx, hb, hml, hown, hts⟩ (c_L_set_repair_two l hst D cI cZ cO cJ x a t b q ρ z2 (nI 0) (nI 0) H.size (by omega) c3) (vx_cwSW (rm := rxL_set) 5 hts gL_isRefused_L_set rfl rfl rfl (by decide +kernel) ⟨Nat.le_of_ble_eq_true rfl, Nat.le_of_ble_eq_true rfl⟩) (kPreSHW hK hN hX hC (pfP hP) (pfD hD) hS (kfree (pfD hD) hS hA)) rfl rfl hl.1 rfl (lv_room (Nat.le_of_ble_eq_true rfl)) dL_isRefused_498 ⟨by show _ ≤ 48; omega, by show _ ≤ 288; omega⟩) (fun r9 ρ H locs hr9 hP hD hS => ?_)
            have hr9 : r9 = (-9000002) := hr9
            subst hr9
            refine W.widen (k := 33 + z2 + 1) (n := 198 + 6 * z2 + 6) (by omega) (by omega) ?_
            refine lv_ldc hx hb hown (hts (.constant RL 40 (-9000002)) (by decide +kernel)) dL_isRefused_501 ?_
            refine lv_icmp_ne (tgt := 510) hx hb dL_isRefused_503 (by decide) (fun c9 => absurd (by decide +kernel) c9) (fun _ => ?_)
            refine lv_iconst (v := nI 1) hx hb dL_isRefused_506 (by decide +kernel) ?_
            refine lv_goto (tgt := 511) hx hb dL_isRefused_507 (by decide) ?_
            refine lv_istore (lv' := [(8, .int (nI 1)), (0, .ref (x 0)), (1, .ref ap), (3, .int (nI 1)), (4, .int v6), (5, .int v8), (6, .long (aF q 8)), (9, .int (nI z2))]) hx hb dL_isRefused_511 hl (by decide) rfl (fun ls hl => ?_)
            refine lv_iinc (v := nI (z2 + 1)) (lv' := [(9, .int (nI (z2 + 1))), (8, .int (nI 1)), (0, .ref (x 0)), (1, .ref ap), (3, .int (nI 1)), (4, .int v6), (5, .int v8), (6, .long (aF q 8))]) hx hb dL_isRefused_513 hl (k := 7) rfl (k_inc _) (by decide) rfl (fun ls hl => ?_)
            refine lv_goto (tgt := 465) hx hb dL_isRefused_516 (by decide) ?_
            refine W.widen (k := 33 + (z2 + 1)) (n := 198 + 6 * (z2 + 1)) (by omega) (by omega) ?_
            exact ih2 (z2 + 1) (by omega) ρ H locs hP hD hS ls (lv_sub hl [2, 3, 4, 5, 6, 7, 1, 0] rfl)
      refine W.widen (k := 33) (n := 198) (by decide) (by decide) ?_
      exact lq 8 0 rfl ρ H locs hP hD hS ls (lv_sub hl [1, 2, 3, 4, 5, 6, 7, 0] rfl)
    | succ n ih =>
      intro z hz9 ρ H locs hP hD hS ls hl
      have hzb : z < 9 := by omega
      refine lv_iload hx hb dL_isRefused_383 (lv_at hl 7 rfl) ?_
      refine lv_bipush (v := nI 9) hx hb dL_isRefused_385 (by decide +kernel) ?_
      refine lv_icmp_ge (tgt := 462) hx hb dL_isRefused_387 (by decide) (fun c9 => absurd c9 (nI_ge hzb (by decide))) (fun _ => ?_)
      refine lv_iload hx hb dL_isRefused_390 (lv_at hl 6 rfl) ?_
      refine lv_if_eq (tgt := 462) hx hb dL_isRefused_392 (by decide) (fun c9 => absurd c9 (by decide +kernel)) (fun _ => ?_)
      refine lv_aload_n hx hb dL_isRefused_395 rfl (lv_at hl 0 rfl) ?_
      refine lv_iload hx hb dL_isRefused_396 (lv_at hl 7 rfl) ?_
      refine lv_iload hx hb dL_isRefused_398 (lv_at hl 7 rfl) ?_
      refine lv_iconst (v := nI 2) hx hb dL_isRefused_400 (by decide +kernel) ?_
      by_cases c1 : z < 2
      · refine lv_icmp_ge (tgt := 409) hx hb dL_isRefused_401 (by decide) (fun c9 => absurd c9 (nI_ge c1 (by decide))) (fun _ => ?_)
        refine lv_iload hx hb dL_isRefused_404 (lv_at hl 4 rfl) ?_
        refine lv_goto (tgt := 411) hx hb dL_isRefused_406 (by decide) ?_
        refine lv_iconst (v := nI 5) hx hb dL_isRefused_411 (by decide +kernel) ?_
        refine kCallP_i (mc := 1) (ms := 6) (T := [(ap, .inl (cI, 6, .inl pf))]) (W1 := fun ρ : HS => wQ cI cZ cO x a t b q ρ) (fun _ _ h => h) hP hD hS hA (fun _ => rfl) (vx_runSW (As := [.ref (x 0), .int (nI z), .int v8, .int (nI 5)]) (rest := []) ⟨hx, hb, hml, hown, hts⟩ (c_L_of_bad l hst D cI cZ cO cJ x a t b q ρ z v8 (nI 5) H.size (by omega) (by unfold badOf; rw [if_pos c1]; exact h8)) (vx_cwSW (rm := rxL_of) 4 hts gL_isRefused_L_of rfl rfl rfl (by decide +kernel) ⟨Nat.le_of_ble_eq_true rfl, Nat.le_of_ble_eq_true rfl⟩) (kPreSHW hK hN hX hC (pfP hP) (pfD hD) hS (kfree (pfD hD) hS hA)) rfl rfl hl.1 rfl (lv_room (Nat.le_of_ble_eq_true rfl)) dL_isRefused_412 ⟨by show _ ≤ 48; omega, by show _ ≤ 288; omega⟩) (fun r9 ρ H locs hr9 hP hD hS => ?_)
        have hr9 : r9 = (-9000001) := hr9
        subst hr9
        refine W.widen (k := 15 + 2 * z + 1) (n := 90 + 12 * z + 6) (by omega) (by omega) ?_
        refine lv_ldc hx hb hown (hts (.constant RL 37 (-9000001)) (by decide +kernel)) dL_isRefused_415 ?_
        refine lv_icmp_ne (tgt := 453) hx hb dL_isRefused_417 (by decide) (fun c9 => absurd (by decide +kernel) c9) (fun _ => ?_)
        refine lv_iload hx hb dL_isRefused_420 (lv_at hl 7 rfl) ?_
        refine lv_bipush (v := nI 6) hx hb dL_isRefused_422 (by decide +kernel) ?_
        refine lv_icmp_lt (tgt := 449) hx hb dL_isRefused_424 (by decide) (fun _ => ?_) (fun c9 => absurd (nI_lt (by omega) (by decide)) c9)
        refine lv_iconst (v := nI 1) hx hb dL_isRefused_449 (by decide +kernel) ?_
        refine lv_goto (tgt := 454) hx hb dL_isRefused_450 (by decide) ?_
        refine lv_istore (lv' := [(8, .int (nI 1)), (0, .ref (x 0)), (1, .ref ap), (3, .int (nI 1)), (4, .int v6), (5, .int v8), (6, .long (aF q 8)), (9, .int (nI z))]) hx hb dL_isRefused_454 hl (by decide) rfl (fun ls hl => ?_)
        refine lv_iinc (v := nI (z + 1)) (lv' := [(9, .int (nI (z + 1))), (8, .int (nI 1)), (0, .ref (x 0)), (1, .ref ap), (3, .int (nI 1)), (4, .int v6), (5, .int v8), (6, .long (aF q 8))]) hx hb dL_isRefused_456 hl (k := 7) rfl (k_inc _) (by decide) rfl (fun ls hl => ?_)
        refine lv_goto (tgt := 383) hx hb dL_isRefused_459 (by decide) ?_
        refine W.widen (k := 15 + 2 * (z + 1)) (n := 90 + 12 * (z + 1)) (by omega) (by omega) ?_
        exact ih (z + 1) (by omega) ρ H locs hP hD hS ls (lv_sub hl [2, 3, 4, 5, 6, 7, 1, 0] rfl)
      · refine lv_icmp_ge (tgt := 409) hx hb dL_isRefused_401 (by decide) (fun _ => ?_) (fun c9 => absurd (nI_le (by omega) (by omega)) c9)
        by_cases c2 : z < 6
        · refine lv_iload hx hb dL_isRefused_409 (lv_at hl 3 rfl) ?_
          refine lv_iconst (v := nI 5) hx hb dL_isRefused_411 (by decide +kernel) ?_
          refine kCallP_i (mc := 1) (ms := 6) (T := [(ap, .inl (cI, 6, .inl pf))]) (W1 := fun ρ : HS => wQ cI cZ cO x a t b q ρ) (fun _ _ h => h) hP hD hS hA (fun _ => rfl) (vx_runSW (As := [.ref (x 0), .int (nI z), .int v6, .int (nI 5)]) (rest := []) ⟨hx, hb, hml, hown, hts⟩ (c_L_of_bad l hst D cI cZ cO cJ x a t b q ρ z v6 (nI 5) H.size (by omega) (by unfold badOf; rw [if_neg c1, if_pos c2]; exact h6)) (vx_cwSW (rm := rxL_of) 4 hts gL_isRefused_L_of rfl rfl rfl (by decide +kernel) ⟨Nat.le_of_ble_eq_true rfl, Nat.le_of_ble_eq_true rfl⟩) (kPreSHW hK hN hX hC (pfP hP) (pfD hD) hS (kfree (pfD hD) hS hA)) rfl rfl hl.1 rfl (lv_room (Nat.le_of_ble_eq_true rfl)) dL_isRefused_412 ⟨by show _ ≤ 48; omega, by show _ ≤ 288; omega⟩) (fun r9 ρ H locs hr9 hP hD hS => ?_)
          have hr9 : r9 = (-9000001) := hr9
          subst hr9
          refine W.widen (k := 15 + 2 * z + 1) (n := 90 + 12 * z + 6) (by omega) (by omega) ?_
          refine lv_ldc hx hb hown (hts (.constant RL 37 (-9000001)) (by decide +kernel)) dL_isRefused_415 ?_
          refine lv_icmp_ne (tgt := 453) hx hb dL_isRefused_417 (by decide) (fun c9 => absurd (by decide +kernel) c9) (fun _ => ?_)
          refine lv_iload hx hb dL_isRefused_420 (lv_at hl 7 rfl) ?_
          refine lv_bipush (v := nI 6) hx hb dL_isRefused_422 (by decide +kernel) ?_
          refine lv_icmp_lt (tgt := 449) hx hb dL_isRefused_424 (by decide) (fun _ => ?_) (fun c9 => absurd (nI_lt c2 (by decide)) c9)
          refine lv_iconst (v := nI 1) hx hb dL_isRefused_449 (by decide +kernel) ?_
          refine lv_goto (tgt := 454) hx hb dL_isRefused_450 (by decide) ?_
          refine lv_istore (lv' := [(8, .int (nI 1)), (0, .ref (x 0)), (1, .ref ap), (3, .int (nI 1)), (4, .int v6), (5, .int v8), (6, .long (aF q 8)), (9, .int (nI z))]) hx hb dL_isRefused_454 hl (by decide) rfl (fun ls hl => ?_)
          refine lv_iinc (v := nI (z + 1)) (lv' := [(9, .int (nI (z + 1))), (8, .int (nI 1)), (0, .ref (x 0)), (1, .ref ap), (3, .int (nI 1)), (4, .int v6), (5, .int v8), (6, .long (aF q 8))]) hx hb dL_isRefused_456 hl (k := 7) rfl (k_inc _) (by decide) rfl (fun ls hl => ?_)
          refine lv_goto (tgt := 383) hx hb dL_isRefused_459 (by decide) ?_
          refine W.widen (k := 15 + 2 * (z + 1)) (n := 90 + 12 * (z + 1)) (by omega) (by omega) ?_
          exact ih (z + 1) (by omega) ρ H locs hP hD hS ls (lv_sub hl [2, 3, 4, 5, 6, 7, 1, 0] rfl)
        · refine lv_iload hx hb dL_isRefused_409 (lv_at hl 3 rfl) ?_
          refine lv_iconst (v := nI 5) hx hb dL_isRefused_411 (by decide +kernel) ?_
          refine kCallP_i (mc := 1) (ms := 6) (T := [(ap, .inl (cI, 6, .inl pf))]) (W1 := fun ρ : HS => wQ cI cZ cO x a t b q ρ) (fun _ _ h => h) hP hD hS hA (fun _ => rfl) (vx_runSW (As := [.ref (x 0), .int (nI z), .int v6, .int (nI 5)]) (rest := []) ⟨hx, hb, hml, hown, hts⟩ (c_L_of_bad l hst D cI cZ cO cJ x a t b q ρ z v6 (nI 5) H.size (by omega) (by unfold badOf; rw [if_neg c1, if_neg c2]; exact (fun g => h6 g.1))) (vx_cwSW (rm := rxL_of) 4 hts gL_isRefused_L_of rfl rfl rfl (by decide +kernel) ⟨Nat.le_of_ble_eq_true rfl, Nat.le_of_ble_eq_true rfl⟩) (kPreSHW hK hN hX hC (pfP hP) (pfD hD) hS (kfree (pfD hD) hS hA)) rfl rfl hl.1 rfl (lv_room (Nat.le_of_ble_eq_true rfl)) dL_isRefused_412 ⟨by show _ ≤ 48; omega, by show _ ≤ 288; omega⟩) (fun r9 ρ H locs hr9 hP hD hS => ?_)
          have hr9 : r9 = (-9000001) := hr9
          subst hr9
          refine W.widen (k := 15 + 2 * z + 1) (n := 90 + 12 * z + 6) (by omega) (by omega) ?_
          refine lv_ldc hx hb hown (hts (.constant RL 37 (-9000001)) (by decide +kernel)) dL_isRefused_415 ?_
          refine lv_icmp_ne (tgt := 453) hx hb dL_isRefused_417 (by decide) (fun c9 => absurd (by decide +kernel) c9) (fun _ => ?_)
          refine lv_iload hx hb dL_isRefused_420 (lv_at hl 7 rfl) ?_
          refine lv_bipush (v := nI 6) hx hb dL_isRefused_422 (by decide +kernel) ?_
          refine lv_icmp_lt (tgt := 449) hx hb dL_isRefused_424 (by decide) (fun c9 => absurd c9 (nI_nlt (by omega) (by omega))) (fun _ => ?_)
          refine lv_aload_n hx hb dL_isRefused_427 rfl (lv_at hl 0 rfl) ?_
          refine lv_iload hx hb dL_isRefused_428 (lv_at hl 7 rfl) ?_
          refine lv_iconst (v := nI 1) hx hb dL_isRefused_430 (by decide +kernel) ?_
          refine lv_iload_n hx hb dL_isRefused_431 rfl (lv_at hl 2 rfl) ?_
          refine lv_if_eq (tgt := 439) hx hb dL_isRefused_432 (by decide) (fun c9 => absurd c9 (by decide +kernel)) (fun _ => ?_)
          refine lv_iconst (v := nI 0) hx hb dL_isRefused_435 (by decide +kernel) ?_
          refine lv_goto (tgt := 441) hx hb dL_isRefused_436 (by decide) ?_
          refine kCallP_i (mc := 1) (ms := 6) (T := [(ap, .inl (cI, 6, .inl pf))]) (W1 := fun ρ : HS => wQ cI cZ cO x a t b q ρ) (fun _ _ h => h) hP hD hS hA (fun _ => rfl) (vx_runSW (As := [.ref (x 0), .int (nI z), .int (nI 1), .int (nI 0)]) (rest := []) ⟨hx, hb, hml, hown, hts⟩ (c_L_of_bad l hst D cI cZ cO cJ x a t b q ρ z (nI 1) (nI 0) H.size (by omega) (by unfold badOf; rw [if_neg c1, if_neg c2]; unfold inR; decide +kernel)) (vx_cwSW (rm := rxL_of) 4 hts gL_isRefused_L_of rfl rfl rfl (by decide +kernel) ⟨Nat.le_of_ble_eq_true rfl, Nat.le_of_ble_eq_true rfl⟩) (kPreSHW hK hN hX hC (pfP hP) (pfD hD) hS (kfree (pfD hD) hS hA)) rfl rfl hl.1 rfl (lv_room (Nat.le_of_ble_eq_true rfl)) dL_isRefused_441 ⟨by show _ ≤ 48; omega, by show _ ≤ 288; omega⟩) (fun r9 ρ H locs hr9 hP hD hS => ?_)
          have hr9 : r9 = (-9000001) := hr9
          subst hr9
          refine W.widen (k := 15 + 2 * z + 1 + 1) (n := 90 + 12 * z + 6 + 6) (by omega) (by omega) ?_
          refine lv_ldc hx hb hown (hts (.constant RL 37 (-9000001)) (by decide +kernel)) dL_isRefused_444 ?_
          refine lv_icmp_ne (tgt := 453) hx hb dL_isRefused_446 (by decide) (fun c9 => absurd (by decide +kernel) c9) (fun _ => ?_)
          refine lv_iconst (v := nI 1) hx hb dL_isRefused_449 (by decide +kernel) ?_
          refine lv_goto (tgt := 454) hx hb dL_isRefused_450 (by decide) ?_
          refine lv_istore (lv' := [(8, .int (nI 1)), (0, .ref (x 0)), (1, .ref ap), (3, .int (nI 1)), (4, .int v6), (5, .int v8), (6, .long (aF q 8)), (9, .int (nI z))]) hx hb dL_isRefused_454 hl (by decide) rfl (fun ls hl => ?_)
          refine lv_iinc (v := nI (z + 1)) (lv' := [(9, .int (nI (z + 1))), (8, .int (nI 1)), (0, .ref (x 0)), (1, .ref ap), (3, .int (nI 1)), (4, .int v6), (5, .int v8), (6, .long (aF q 8))]) hx hb dL_isRefused_456 hl (k := 7) rfl (k_inc _) (by decide) rfl (fun ls hl => ?_)
          refine lv_goto (tgt := 383) hx hb dL_isRefused_459 (by decide) ?_
          refine W.widen (k := 15 + 2 * (z + 1)) (n := 90 + 12 * (z + 1)) (by omega) (by omega) ?_
          exact ih (z + 1) (by omega) ρ H locs hP hD hS ls (lv_sub hl [2, 3, 4, 5, 6, 7, 1, 0] rfl)
  exact lp 9 0 rfl ρ H locs hP hD hS ls (lv_sub hl [6, 7, 5, 4, 3, 2, 1, 0] rfl)

set_option maxHeartbeats 4000000 in
set_option maxRecDepth 100000 in
theorem c_L_isRefused_high (l : Launch) (hst : l.stackTraces = false) (D : va_G) (cI cZ cO cJ : ClassId) (x a t b : Nat → Nat) (q : QS) (ρ : HS) (ap : Nat) (pf : Nat → Int32) (B : Nat) (X : Nat) (sz : Nat) (hQ : QOK q) (hp : PR pf q B) (hX9 : X < 2147483648) (hl9 : X % 2 = 1) : kMH l yL_isRefused wsL_isRefused rxL_isRefused D (kT cI cZ cO cJ) [.ref (x 0), .ref ap, .int (nI X)] (wQ cI cZ cO x a t b q ρ ++ [(ap, .inl (cI, 6, .inl pf))]) (fun u : HS => wQ cI cZ cO x a t b q u ++ [(ap, .inl (cI, 6, .inl pf))]) 48 288 sz (nI 1) := by
  refine kEnterQ (cc := cL_isRefused) (maxL := 10) (ret := some .boolean) (by decide +kernel) rfl (Nat.le_of_ble_eq_true rfl) ?_
  intro p e s m below meth c args hx hb hr hml hts hown hlocks hK hN A hA9 Q hQ9 hP hD hsz hS hA hX hC ls hl
  have hl : lv_has ls 10 [(0, .ref (x 0)), (1, .ref ap), (2, .int (nI X))] := hl
  obtain ⟨H, hH9⟩ : ∃ H, H = s.heap := ⟨_, rfl⟩
  rw [← hH9] at hP ⊢
  have hS : va_S A s.heap H [] := by rw [hH9]; exact va_S.rf
  have hlocs : ∃ locs : List Loc, locs = [] := ⟨_, rfl⟩
  obtain ⟨locs, hlocs⟩ := hlocs
  rw [← hlocs] at hS ⊢
  refine lv_iload_n hx hb dL_isRefused_0 rfl (lv_at hl 2 rfl) ?_
  refine lv_iconst (v := nI 2) hx hb dL_isRefused_1 (by decide +kernel) ?_
  refine lv_irem hx hb dL_isRefused_2 (by decide +kernel) ?_
  refine k_as (y := nI (X % 2)) (nI_mod (by omega) (by decide) (by decide)) ?_
  refine k_as (y := nI 1) (congrArg nI hl9) ?_
  refine lv_if_ne (tgt := 10) hx hb dL_isRefused_3 (by decide) (fun _ => ?_) (fun c9 => absurd c9 (by decide +kernel))
  refine lv_iconst (v := nI 0) hx hb dL_isRefused_10 (by decide +kernel) ?_
  refine lv_istore_n (lv' := [(3, .int (nI 0)), (0, .ref (x 0)), (1, .ref ap), (2, .int (nI X))]) hx hb dL_isRefused_11 rfl hl (by decide) rfl (fun ls hl => ?_)
  refine lv_iload_n hx hb dL_isRefused_12 rfl (lv_at hl 0 rfl) ?_
  refine lv_if_eq (tgt := 25) hx hb dL_isRefused_13 (by decide) (fun _ => ?_) (fun c9 => absurd (by decide +kernel) c9)
  refine lv_bipush (v := nI 6) hx hb dL_isRefused_25 (by decide +kernel) ?_
  refine lv_iload_n hx hb dL_isRefused_27 rfl (lv_at hl 3 rfl) ?_
  refine lv_bipush (v := nI 30) hx hb dL_isRefused_28 (by decide +kernel) ?_
  refine lv_irem hx hb dL_isRefused_30 (by decide +kernel) ?_
  refine k_as (y := nI (X % 30)) (nI_mod (by omega) (by decide) (by decide)) ?_
  refine lv_iadd hx hb dL_isRefused_31 ?_
  refine k_as (nI_add _ _) ?_
  obtain ⟨v6, e6⟩ : ∃ v : Int32, v = nI (6 + (X % 30)) := ⟨_, rfl⟩
  have h6 : ¬ inR v6 (nI 0) (nI 5) := by rw [e6]; exact hi_bad (by omega) (by omega)
  refine k_as (y := v6) e6.symm ?_
  refine lv_istore (lv' := [(4, .int v6), (3, .int (nI 0)), (0, .ref (x 0)), (1, .ref ap), (2, .int (nI X))]) hx hb dL_isRefused_32 hl (by decide) rfl (fun ls hl => ?_)
  refine lv_iload_n hx hb dL_isRefused_34 rfl (lv_at hl 1 rfl) ?_
  refine lv_if_eq (tgt := 47) hx hb dL_isRefused_35 (by decide) (fun _ => ?_) (fun c9 => absurd (by decide +kernel) c9)
  refine lv_bipush (v := nI 8) hx hb dL_isRefused_47 (by decide +kernel) ?_
  refine lv_iload_n hx hb dL_isRefused_49 rfl (lv_at hl 4 rfl) ?_
  refine lv_bipush (v := nI 30) hx hb dL_isRefused_50 (by decide +kernel) ?_
  refine lv_irem hx hb dL_isRefused_52 (by decide +kernel) ?_
  refine k_as (y := nI (X % 30)) (nI_mod (by omega) (by decide) (by decide)) ?_
  refine lv_iadd hx hb dL_isRefused_53 ?_
  refine k_as (nI_add _ _) ?_
  obtain ⟨v8, e8⟩ : ∃ v : Int32, v = nI (8 + (X % 30)) := ⟨_, rfl⟩
  have h8 : ¬ inR v8 (nI 0) (nI 7) := by rw [e8]; exact hi_bad (by omega) (by omega)
  refine k_as (y := v8) e8.symm ?_
  refine lv_istore (lv' := [(5, .int v8), (4, .int v6), (3, .int (nI 0)), (0, .ref (x 0)), (1, .ref ap), (2, .int (nI X))]) hx hb dL_isRefused_54 hl (by decide) rfl (fun ls hl => ?_)
  refine lv_aload_n hx hb dL_isRefused_56 rfl (lv_at hl 3 rfl) ?_
  refine kCallP_l (mc := 0) (ms := 0) (T := [(ap, .inl (cI, 6, .inl pf))]) (W1 := fun ρ : HS => wQ cI cZ cO x a t b q ρ) (fun _ _ h => h) hP hD hS hA (fun _ => rfl) (va_runS (As := [.ref (x 0)]) (rest := []) ⟨hx, hb, hml, hown, hts⟩ (c_L_all l D cI cZ cO cJ x a t b q ρ H.size hQ) (va_cwS (rm := rmL_all) 1 hts gL_isRefused_L_all rfl rfl rfl (by decide +kernel) ⟨Nat.le_of_ble_eq_true rfl, Nat.le_of_ble_eq_true rfl⟩) (kPreSHW hK hN hX hC (pfP hP) (pfD hD) hS (kfree (pfD hD) hS hA)) rfl rfl hl.1 rfl (lv_room (Nat.le_of_ble_eq_true rfl)) dL_isRefused_57 ⟨Nat.le_of_ble_eq_true rfl, Nat.le_of_ble_eq_true rfl⟩) (fun r9 ρ H locs hr9 hP hD hS => ?_)
  have hr9 : r9 = aF q 8 := hr9
  subst hr9
  refine lv_lstore (lv' := [(6, .long (aF q 8)), (5, .int v8), (4, .int v6), (3, .int (nI 0)), (0, .ref (x 0)), (1, .ref ap), (2, .int (nI X))]) hx hb dL_isRefused_60 hl (by decide) rfl (fun ls hl => ?_)
  refine lv_aload_n hx hb dL_isRefused_62 rfl (lv_at hl 4 rfl) ?_
  refine lv_iconst (v := nI 0) hx hb dL_isRefused_63 (by decide +kernel) ?_
  refine lv_iload hx hb dL_isRefused_64 (lv_at hl 2 rfl) ?_
  refine lv_iconst (v := nI 1) hx hb dL_isRefused_66 (by decide +kernel) ?_
  refine lv_iconst (v := nI 0) hx hb dL_isRefused_67 (by decide +kernel) ?_
  refine kCallP_i (mc := 1) (ms := 6) (T := [(ap, .inl (cI, 6, .inl pf))]) (W1 := fun ρ : HS => wQ cI cZ cO x a t b q ρ) (fun _ _ h => h) hP hD hS hA (fun _ => rfl) (vx_runSW (As := [.ref (x 0), .int (nI 0), .int v6, .int (nI 1), .int (nI 0)]) (rest := []) ⟨hx, hb, hml, hown, hts⟩ (c_L_set_setLoad_bad l hst D cI cZ cO cJ x a t b q ρ v6 (nI 1) (nI 0) H.size (fun g => h6 g.1)) (vx_cwSW (rm := rxL_set) 5 hts gL_isRefused_L_set rfl rfl rfl (by decide +kernel) ⟨Nat.le_of_ble_eq_true rfl, Nat.le_of_ble_eq_true rfl⟩) (kPreSHW hK hN hX hC (pfP hP) (pfD hD) hS (kfree (pfD hD) hS hA)) rfl rfl hl.1 rfl (lv_room (Nat.le_of_ble_eq_true rfl)) dL_isRefused_68 ⟨Nat.le_of_ble_eq_true rfl, Nat.le_of_ble_eq_true rfl⟩) (fun r9 ρ H locs hr9 hP hD hS => ?_)
  have hr9 : r9 = (-9000001) := hr9
  subst hr9
  refine W.widen (k := 1) (n := 6) (by decide) (by decide) ?_
  refine lv_ldc hx hb hown (hts (.constant RL 37 (-9000001)) (by decide +kernel)) dL_isRefused_71 ?_
  refine lv_icmp_ne (tgt := 273) hx hb dL_isRefused_73 (by decide) (fun c9 => absurd (by decide +kernel) c9) (fun _ => ?_)
  refine lv_aload_n hx hb dL_isRefused_76 rfl (lv_at hl 4 rfl) ?_
  refine lv_iconst (v := nI 0) hx hb dL_isRefused_77 (by decide +kernel) ?_
  refine lv_iconst (v := nI 3) hx hb dL_isRefused_78 (by decide +kernel) ?_
  refine lv_iload_n hx hb dL_isRefused_79 rfl (lv_at hl 3 rfl) ?_
  refine lv_if_eq (tgt := 87) hx hb dL_isRefused_80 (by decide) (fun _ => ?_) (fun c9 => absurd (by decide +kernel) c9)
  refine lv_sipush (v := nI 201) hx hb dL_isRefused_87 (by decide +kernel) ?_
  refine lv_iconst (v := nI 0) hx hb dL_isRefused_90 (by decide +kernel) ?_
  refine kCallP_i (mc := 1) (ms := 6) (T := [(ap, .inl (cI, 6, .inl pf))]) (W1 := fun ρ : HS => wQ cI cZ cO x a t b q ρ) (fun _ _ h => h) hP hD hS hA (fun _ => rfl) (vx_runSW (As := [.ref (x 0), .int (nI 0), .int (nI 3), .int (nI 201), .int (nI 0)]) (rest := []) ⟨hx, hb, hml, hown, hts⟩ (c_L_set_setLoad_bad l hst D cI cZ cO cJ x a t b q ρ (nI 3) (nI 201) (nI 0) H.size (by unfold inR; decide +kernel)) (vx_cwSW (rm := rxL_set) 5 hts gL_isRefused_L_set rfl rfl rfl (by decide +kernel) ⟨Nat.le_of_ble_eq_true rfl, Nat.le_of_ble_eq_true rfl⟩) (kPreSHW hK hN hX hC (pfP hP) (pfD hD) hS (kfree (pfD hD) hS hA)) rfl rfl hl.1 rfl (lv_room (Nat.le_of_ble_eq_true rfl)) dL_isRefused_91 ⟨Nat.le_of_ble_eq_true rfl, Nat.le_of_ble_eq_true rfl⟩) (fun r9 ρ H locs hr9 hP hD hS => ?_)
  have hr9 : r9 = (-9000001) := hr9
  subst hr9
  refine W.widen (k := 2) (n := 12) (by decide) (by decide) ?_
  refine lv_ldc hx hb hown (hts (.constant RL 37 (-9000001)) (by decide +kernel)) dL_isRefused_94 ?_
  refine lv_icmp_ne (tgt := 273) hx hb dL_isRefused_96 (by decide) (fun c9 => absurd (by decide +kernel) c9) (fun _ => ?_)
  refine lv_aload_n hx hb dL_isRefused_99 rfl (lv_at hl 4 rfl) ?_
  refine lv_iconst (v := nI 1) hx hb dL_isRefused_100 (by decide +kernel) ?_
  refine lv_iload hx hb dL_isRefused_101 (lv_at hl 2 rfl) ?_
  refine lv_sipush (v := nI 2000) hx hb dL_isRefused_103 (by decide +kernel) ?_
  refine lv_iconst (v := nI 0) hx hb dL_isRefused_106 (by decide +kernel) ?_
  refine kCallP_i (mc := 1) (ms := 6) (T := [(ap, .inl (cI, 6, .inl pf))]) (W1 := fun ρ : HS => wQ cI cZ cO x a t b q ρ) (fun _ _ h => h) hP hD hS hA (fun _ => rfl) (vx_runSW (As := [.ref (x 0), .int (nI 1), .int v6, .int (nI 2000), .int (nI 0)]) (rest := []) ⟨hx, hb, hml, hown, hts⟩ (c_L_set_setSetpoint_bad l hst D cI cZ cO cJ x a t b q ρ v6 (nI 2000) (nI 0) H.size (fun g => h6 g.1)) (vx_cwSW (rm := rxL_set) 5 hts gL_isRefused_L_set rfl rfl rfl (by decide +kernel) ⟨Nat.le_of_ble_eq_true rfl, Nat.le_of_ble_eq_true rfl⟩) (kPreSHW hK hN hX hC (pfP hP) (pfD hD) hS (kfree (pfD hD) hS hA)) rfl rfl hl.1 rfl (lv_room (Nat.le_of_ble_eq_true rfl)) dL_isRefused_107 ⟨Nat.le_of_ble_eq_true rfl, Nat.le_of_ble_eq_true rfl⟩) (fun r9 ρ H locs hr9 hP hD hS => ?_)
  have hr9 : r9 = (-9000001) := hr9
  subst hr9
  refine W.widen (k := 3) (n := 18) (by decide) (by decide) ?_
  refine lv_ldc hx hb hown (hts (.constant RL 37 (-9000001)) (by decide +kernel)) dL_isRefused_110 ?_
  refine lv_icmp_ne (tgt := 273) hx hb dL_isRefused_112 (by decide) (fun c9 => absurd (by decide +kernel) c9) (fun _ => ?_)
  refine lv_aload_n hx hb dL_isRefused_115 rfl (lv_at hl 4 rfl) ?_
  refine lv_iconst (v := nI 1) hx hb dL_isRefused_116 (by decide +kernel) ?_
  refine lv_iconst (v := nI 3) hx hb dL_isRefused_117 (by decide +kernel) ?_
  refine lv_iload_n hx hb dL_isRefused_118 rfl (lv_at hl 3 rfl) ?_
  refine lv_if_eq (tgt := 128) hx hb dL_isRefused_119 (by decide) (fun _ => ?_) (fun c9 => absurd (by decide +kernel) c9)
  refine lv_sipush (v := nI 3501) hx hb dL_isRefused_128 (by decide +kernel) ?_
  refine lv_iconst (v := nI 0) hx hb dL_isRefused_131 (by decide +kernel) ?_
  refine kCallP_i (mc := 1) (ms := 6) (T := [(ap, .inl (cI, 6, .inl pf))]) (W1 := fun ρ : HS => wQ cI cZ cO x a t b q ρ) (fun _ _ h => h) hP hD hS hA (fun _ => rfl) (vx_runSW (As := [.ref (x 0), .int (nI 1), .int (nI 3), .int (nI 3501), .int (nI 0)]) (rest := []) ⟨hx, hb, hml, hown, hts⟩ (c_L_set_setSetpoint_bad l hst D cI cZ cO cJ x a t b q ρ (nI 3) (nI 3501) (nI 0) H.size (by unfold inR; decide +kernel)) (vx_cwSW (rm := rxL_set) 5 hts gL_isRefused_L_set rfl rfl rfl (by decide +kernel) ⟨Nat.le_of_ble_eq_true rfl, Nat.le_of_ble_eq_true rfl⟩) (kPreSHW hK hN hX hC (pfP hP) (pfD hD) hS (kfree (pfD hD) hS hA)) rfl rfl hl.1 rfl (lv_room (Nat.le_of_ble_eq_true rfl)) dL_isRefused_132 ⟨Nat.le_of_ble_eq_true rfl, Nat.le_of_ble_eq_true rfl⟩) (fun r9 ρ H locs hr9 hP hD hS => ?_)
  have hr9 : r9 = (-9000001) := hr9
  subst hr9
  refine W.widen (k := 4) (n := 24) (by decide) (by decide) ?_
  refine lv_ldc hx hb hown (hts (.constant RL 37 (-9000001)) (by decide +kernel)) dL_isRefused_135 ?_
  refine lv_icmp_ne (tgt := 273) hx hb dL_isRefused_137 (by decide) (fun c9 => absurd (by decide +kernel) c9) (fun _ => ?_)
  refine lv_aload_n hx hb dL_isRefused_140 rfl (lv_at hl 4 rfl) ?_
  refine lv_iconst (v := nI 2) hx hb dL_isRefused_141 (by decide +kernel) ?_
  refine lv_iload hx hb dL_isRefused_142 (lv_at hl 1 rfl) ?_
  refine lv_iconst (v := nI 1) hx hb dL_isRefused_144 (by decide +kernel) ?_
  refine lv_iconst (v := nI 1) hx hb dL_isRefused_145 (by decide +kernel) ?_
  refine kCallP_i (mc := 1) (ms := 6) (T := [(ap, .inl (cI, 6, .inl pf))]) (W1 := fun ρ : HS => wQ cI cZ cO x a t b q ρ) (fun _ _ h => h) hP hD hS hA (fun _ => rfl) (vx_runSW (As := [.ref (x 0), .int (nI 2), .int v8, .int (nI 1), .int (nI 1)]) (rest := []) ⟨hx, hb, hml, hown, hts⟩ (c_L_set_setEffect_bad l hst D cI cZ cO cJ x a t b q ρ v8 (nI 1) (nI 1) H.size (fun g => h8 g.1)) (vx_cwSW (rm := rxL_set) 5 hts gL_isRefused_L_set rfl rfl rfl (by decide +kernel) ⟨Nat.le_of_ble_eq_true rfl, Nat.le_of_ble_eq_true rfl⟩) (kPreSHW hK hN hX hC (pfP hP) (pfD hD) hS (kfree (pfD hD) hS hA)) rfl rfl hl.1 rfl (lv_room (Nat.le_of_ble_eq_true rfl)) dL_isRefused_146 ⟨Nat.le_of_ble_eq_true rfl, Nat.le_of_ble_eq_true rfl⟩) (fun r9 ρ H locs hr9 hP hD hS => ?_)
  have hr9 : r9 = (-9000001) := hr9
  subst hr9
  refine W.widen (k := 5) (n := 30) (by decide) (by decide) ?_
  refine lv_ldc hx hb hown (hts (.constant RL 37 (-9000001)) (by decide +kernel)) dL_isRefused_149 ?_
  refine lv_icmp_ne (tgt := 273) hx hb dL_isRefused_151 (by decide) (fun c9 => absurd (by decide +kernel) c9) (fun _ => ?_)
  refine lv_aload_n hx hb dL_isRefused_154 rfl (lv_at hl 4 rfl) ?_
  refine lv_iconst (v := nI 2) hx hb dL_isRefused_155 (by decide +kernel) ?_
  refine lv_iconst (v := nI 1) hx hb dL_isRefused_156 (by decide +kernel) ?_
  refine lv_iload hx hb dL_isRefused_157 (lv_at hl 2 rfl) ?_
  refine lv_iconst (v := nI 1) hx hb dL_isRefused_159 (by decide +kernel) ?_
  refine kCallP_i (mc := 1) (ms := 6) (T := [(ap, .inl (cI, 6, .inl pf))]) (W1 := fun ρ : HS => wQ cI cZ cO x a t b q ρ) (fun _ _ h => h) hP hD hS hA (fun _ => rfl) (vx_runSW (As := [.ref (x 0), .int (nI 2), .int (nI 1), .int v6, .int (nI 1)]) (rest := []) ⟨hx, hb, hml, hown, hts⟩ (c_L_set_setEffect_bad l hst D cI cZ cO cJ x a t b q ρ (nI 1) v6 (nI 1) H.size (fun g => h6 g.2.1)) (vx_cwSW (rm := rxL_set) 5 hts gL_isRefused_L_set rfl rfl rfl (by decide +kernel) ⟨Nat.le_of_ble_eq_true rfl, Nat.le_of_ble_eq_true rfl⟩) (kPreSHW hK hN hX hC (pfP hP) (pfD hD) hS (kfree (pfD hD) hS hA)) rfl rfl hl.1 rfl (lv_room (Nat.le_of_ble_eq_true rfl)) dL_isRefused_160 ⟨Nat.le_of_ble_eq_true rfl, Nat.le_of_ble_eq_true rfl⟩) (fun r9 ρ H locs hr9 hP hD hS => ?_)
  have hr9 : r9 = (-9000001) := hr9
  subst hr9
  refine W.widen (k := 6) (n := 36) (by decide) (by decide) ?_
  refine lv_ldc hx hb hown (hts (.constant RL 37 (-9000001)) (by decide +kernel)) dL_isRefused_163 ?_
  refine lv_icmp_ne (tgt := 273) hx hb dL_isRefused_165 (by decide) (fun c9 => absurd (by decide +kernel) c9) (fun _ => ?_)
  refine lv_aload_n hx hb dL_isRefused_168 rfl (lv_at hl 4 rfl) ?_
  refine lv_iconst (v := nI 2) hx hb dL_isRefused_169 (by decide +kernel) ?_
  refine lv_iconst (v := nI 1) hx hb dL_isRefused_170 (by decide +kernel) ?_
  refine lv_iconst (v := nI 1) hx hb dL_isRefused_171 (by decide +kernel) ?_
  refine lv_iload_n hx hb dL_isRefused_172 rfl (lv_at hl 3 rfl) ?_
  refine lv_if_eq (tgt := 180) hx hb dL_isRefused_173 (by decide) (fun _ => ?_) (fun c9 => absurd (by decide +kernel) c9)
  refine lv_bipush (v := nI 101) hx hb dL_isRefused_180 (by decide +kernel) ?_
  refine kCallP_i (mc := 1) (ms := 6) (T := [(ap, .inl (cI, 6, .inl pf))]) (W1 := fun ρ : HS => wQ cI cZ cO x a t b q ρ) (fun _ _ h => h) hP hD hS hA (fun _ => rfl) (vx_runSW (As := [.ref (x 0), .int (nI 2), .int (nI 1), .int (nI 1), .int (nI 101)]) (rest := []) ⟨hx, hb, hml, hown, hts⟩ (c_L_set_setEffect_bad l hst D cI cZ cO cJ x a t b q ρ (nI 1) (nI 1) (nI 101) H.size (by unfold inR; decide +kernel)) (vx_cwSW (rm := rxL_set) 5 hts gL_isRefused_L_set rfl rfl rfl (by decide +kernel) ⟨Nat.le_of_ble_eq_true rfl, Nat.le_of_ble_eq_true rfl⟩) (kPreSHW hK hN hX hC (pfP hP) (pfD hD) hS (kfree (pfD hD) hS hA)) rfl rfl hl.1 rfl (lv_room (Nat.le_of_ble_eq_true rfl)) dL_isRefused_182 ⟨Nat.le_of_ble_eq_true rfl, Nat.le_of_ble_eq_true rfl⟩) (fun r9 ρ H locs hr9 hP hD hS => ?_)
  have hr9 : r9 = (-9000001) := hr9
  subst hr9
  refine W.widen (k := 7) (n := 42) (by decide) (by decide) ?_
  refine lv_ldc hx hb hown (hts (.constant RL 37 (-9000001)) (by decide +kernel)) dL_isRefused_185 ?_
  refine lv_icmp_ne (tgt := 273) hx hb dL_isRefused_187 (by decide) (fun c9 => absurd (by decide +kernel) c9) (fun _ => ?_)
  refine lv_aload_n hx hb dL_isRefused_190 rfl (lv_at hl 4 rfl) ?_
  refine lv_iconst (v := nI 3) hx hb dL_isRefused_191 (by decide +kernel) ?_
  refine lv_iload_n hx hb dL_isRefused_192 rfl (lv_at hl 3 rfl) ?_
  refine lv_if_eq (tgt := 200) hx hb dL_isRefused_193 (by decide) (fun _ => ?_) (fun c9 => absurd (by decide +kernel) c9)
  refine lv_bipush (v := nI 9) hx hb dL_isRefused_200 (by decide +kernel) ?_
  refine lv_iconst (v := nI 0) hx hb dL_isRefused_202 (by decide +kernel) ?_
  refine lv_iconst (v := nI 0) hx hb dL_isRefused_203 (by decide +kernel) ?_
  refine kCallP_i (mc := 1) (ms := 6) (T := [(ap, .inl (cI, 6, .inl pf))]) (W1 := fun ρ : HS => wQ cI cZ cO x a t b q ρ) (fun _ _ h => h) hP hD hS hA (fun _ => rfl) (vx_runSW (As := [.ref (x 0), .int (nI 3), .int (nI 9), .int (nI 0), .int (nI 0)]) (rest := []) ⟨hx, hb, hml, hown, hts⟩ (c_L_set_setDelay_bad l hst D cI cZ cO cJ x a t b q ρ (nI 9) (nI 0) (nI 0) H.size (by unfold inR; decide +kernel)) (vx_cwSW (rm := rxL_set) 5 hts gL_isRefused_L_set rfl rfl rfl (by decide +kernel) ⟨Nat.le_of_ble_eq_true rfl, Nat.le_of_ble_eq_true rfl⟩) (kPreSHW hK hN hX hC (pfP hP) (pfD hD) hS (kfree (pfD hD) hS hA)) rfl rfl hl.1 rfl (lv_room (Nat.le_of_ble_eq_true rfl)) dL_isRefused_204 ⟨Nat.le_of_ble_eq_true rfl, Nat.le_of_ble_eq_true rfl⟩) (fun r9 ρ H locs hr9 hP hD hS => ?_)
  have hr9 : r9 = (-9000001) := hr9
  subst hr9
  refine W.widen (k := 8) (n := 48) (by decide) (by decide) ?_
  refine lv_ldc hx hb hown (hts (.constant RL 37 (-9000001)) (by decide +kernel)) dL_isRefused_207 ?_
  refine lv_icmp_ne (tgt := 273) hx hb dL_isRefused_209 (by decide) (fun c9 => absurd (by decide +kernel) c9) (fun _ => ?_)
  refine lv_aload_n hx hb dL_isRefused_212 rfl (lv_at hl 4 rfl) ?_
  refine lv_iconst (v := nI 4) hx hb dL_isRefused_213 (by decide +kernel) ?_
  refine lv_iload hx hb dL_isRefused_214 (lv_at hl 1 rfl) ?_
  refine lv_iconst (v := nI 0) hx hb dL_isRefused_216 (by decide +kernel) ?_
  refine lv_iconst (v := nI 0) hx hb dL_isRefused_217 (by decide +kernel) ?_
  refine kCallP_i (mc := 1) (ms := 6) (T := [(ap, .inl (cI, 6, .inl pf))]) (W1 := fun ρ : HS => wQ cI cZ cO x a t b q ρ) (fun _ _ h => h) hP hD hS hA (fun _ => rfl) (vx_runSW (As := [.ref (x 0), .int (nI 4), .int v8, .int (nI 0), .int (nI 0)]) (rest := []) ⟨hx, hb, hml, hown, hts⟩ (c_L_set_fail_bad l hst D cI cZ cO cJ x a t b q ρ v8 (nI 0) (nI 0) H.size h8) (vx_cwSW (rm := rxL_set) 5 hts gL_isRefused_L_set rfl rfl rfl (by decide +kernel) ⟨Nat.le_of_ble_eq_true rfl, Nat.le_of_ble_eq_true rfl⟩) (kPreSHW hK hN hX hC (pfP hP) (pfD hD) hS (kfree (pfD hD) hS hA)) rfl rfl hl.1 rfl (lv_room (Nat.le_of_ble_eq_true rfl)) dL_isRefused_218 ⟨Nat.le_of_ble_eq_true rfl, Nat.le_of_ble_eq_true rfl⟩) (fun r9 ρ H locs hr9 hP hD hS => ?_)
  have hr9 : r9 = (-9000001) := hr9
  subst hr9
  refine W.widen (k := 9) (n := 54) (by decide) (by decide) ?_
  refine lv_ldc hx hb hown (hts (.constant RL 37 (-9000001)) (by decide +kernel)) dL_isRefused_221 ?_
  refine lv_icmp_ne (tgt := 273) hx hb dL_isRefused_223 (by decide) (fun c9 => absurd (by decide +kernel) c9) (fun _ => ?_)
  refine lv_aload_n hx hb dL_isRefused_226 rfl (lv_at hl 4 rfl) ?_
  refine lv_iconst (v := nI 5) hx hb dL_isRefused_227 (by decide +kernel) ?_
  refine lv_iload hx hb dL_isRefused_228 (lv_at hl 1 rfl) ?_
  refine lv_iconst (v := nI 0) hx hb dL_isRefused_230 (by decide +kernel) ?_
  refine lv_iconst (v := nI 0) hx hb dL_isRefused_231 (by decide +kernel) ?_
  refine kCallP_i (mc := 1) (ms := 6) (T := [(ap, .inl (cI, 6, .inl pf))]) (W1 := fun ρ : HS => wQ cI cZ cO x a t b q ρ) (fun _ _ h => h) hP hD hS hA (fun _ => rfl) (vx_runSW (As := [.ref (x 0), .int (nI 5), .int v8, .int (nI 0), .int (nI 0)]) (rest := []) ⟨hx, hb, hml, hown, hts⟩ (c_L_set_repair_bad l hst D cI cZ cO cJ x a t b q ρ v8 (nI 0) (nI 0) H.size h8) (vx_cwSW (rm := rxL_set) 5 hts gL_isRefused_L_set rfl rfl rfl (by decide +kernel) ⟨Nat.le_of_ble_eq_true rfl, Nat.le_of_ble_eq_true rfl⟩) (kPreSHW hK hN hX hC (pfP hP) (pfD hD) hS (kfree (pfD hD) hS hA)) rfl rfl hl.1 rfl (lv_room (Nat.le_of_ble_eq_true rfl)) dL_isRefused_232 ⟨Nat.le_of_ble_eq_true rfl, Nat.le_of_ble_eq_true rfl⟩) (fun r9 ρ H locs hr9 hP hD hS => ?_)
  have hr9 : r9 = (-9000001) := hr9
  subst hr9
  refine W.widen (k := 10) (n := 60) (by decide) (by decide) ?_
  refine lv_ldc hx hb hown (hts (.constant RL 37 (-9000001)) (by decide +kernel)) dL_isRefused_235 ?_
  refine lv_icmp_ne (tgt := 273) hx hb dL_isRefused_237 (by decide) (fun c9 => absurd (by decide +kernel) c9) (fun _ => ?_)
  refine lv_aload_n hx hb dL_isRefused_240 rfl (lv_at hl 4 rfl) ?_
  refine lv_bipush (v := nI 6) hx hb dL_isRefused_241 (by decide +kernel) ?_
  refine lv_iload_n hx hb dL_isRefused_243 rfl (lv_at hl 3 rfl) ?_
  refine lv_if_eq (tgt := 256) hx hb dL_isRefused_244 (by decide) (fun _ => ?_) (fun c9 => absurd (by decide +kernel) c9)
  refine lv_sipush (v := nI 301) hx hb dL_isRefused_256 (by decide +kernel) ?_
  refine lv_iconst (v := nI 0) hx hb dL_isRefused_259 (by decide +kernel) ?_
  refine lv_iconst (v := nI 0) hx hb dL_isRefused_260 (by decide +kernel) ?_
  refine kCallP_i (mc := 1) (ms := 6) (T := [(ap, .inl (cI, 6, .inl pf))]) (W1 := fun ρ : HS => wQ cI cZ cO x a t b q ρ) (fun _ _ h => h) hP hD hS hA (fun _ => rfl) (vx_runSW (As := [.ref (x 0), .int (nI 6), .int (nI 301), .int (nI 0), .int (nI 0)]) (rest := []) ⟨hx, hb, hml, hown, hts⟩ (c_L_set_pass_bad l hst D cI cZ cO cJ x a t b q ρ (nI 301) (nI 0) (nI 0) H.size (by unfold inR; decide +kernel)) (vx_cwSW (rm := rxL_set) 5 hts gL_isRefused_L_set rfl rfl rfl (by decide +kernel) ⟨Nat.le_of_ble_eq_true rfl, Nat.le_of_ble_eq_true rfl⟩) (kPreSHW hK hN hX hC (pfP hP) (pfD hD) hS (kfree (pfD hD) hS hA)) rfl rfl hl.1 rfl (lv_room (Nat.le_of_ble_eq_true rfl)) dL_isRefused_261 ⟨Nat.le_of_ble_eq_true rfl, Nat.le_of_ble_eq_true rfl⟩) (fun r9 ρ H locs hr9 hP hD hS => ?_)
  have hr9 : r9 = (-9000001) := hr9
  subst hr9
  refine W.widen (k := 11) (n := 66) (by decide) (by decide) ?_
  refine lv_ldc hx hb hown (hts (.constant RL 37 (-9000001)) (by decide +kernel)) dL_isRefused_264 ?_
  refine lv_icmp_ne (tgt := 273) hx hb dL_isRefused_266 (by decide) (fun c9 => absurd (by decide +kernel) c9) (fun _ => ?_)
  refine lv_iconst (v := nI 1) hx hb dL_isRefused_269 (by decide +kernel) ?_
  refine lv_goto (tgt := 274) hx hb dL_isRefused_270 (by decide) ?_
  refine lv_istore (lv' := [(8, .int (nI 1)), (6, .long (aF q 8)), (5, .int v8), (4, .int v6), (3, .int (nI 0)), (0, .ref (x 0)), (1, .ref ap), (2, .int (nI X))]) hx hb dL_isRefused_274 hl (by decide) rfl (fun ls hl => ?_)
  refine lv_iload hx hb dL_isRefused_276 (lv_at hl 0 rfl) ?_
  refine lv_if_eq (tgt := 377) hx hb dL_isRefused_278 (by decide) (fun c9 => absurd c9 (by decide +kernel)) (fun _ => ?_)
  refine lv_aload_n hx hb dL_isRefused_281 rfl (lv_at hl 5 rfl) ?_
  refine lv_iload_n hx hb dL_isRefused_282 rfl (lv_at hl 4 rfl) ?_
  refine lv_if_eq (tgt := 290) hx hb dL_isRefused_283 (by decide) (fun _ => ?_) (fun c9 => absurd (by decide +kernel) c9)
  refine lv_sipush (v := nI 201) hx hb dL_isRefused_290 (by decide +kernel) ?_
  refine lv_iconst (v := nI 5) hx hb dL_isRefused_293 (by decide +kernel) ?_
  refine kCallP_i (mc := 1) (ms := 6) (T := [(ap, .inl (cI, 6, .inl pf))]) (W1 := fun ρ : HS => wQ cI cZ cO x a t b q ρ) (fun _ _ h => h) hP hD hS hA (fun _ => rfl) (vx_runSW (As := [.ref (x 0), .int (nI 201), .int (nI 5)]) (rest := []) ⟨hx, hb, hml, hown, hts⟩ (c_L_setGains_bad l hst D cI cZ cO cJ x a t b q ρ (nI 201) (nI 5) H.size (by unfold inR; decide +kernel)) (vx_cwSW (rm := rxL_setGains) 3 hts gL_isRefused_L_setGains rfl rfl rfl (by decide +kernel) ⟨Nat.le_of_ble_eq_true rfl, Nat.le_of_ble_eq_true rfl⟩) (kPreSHW hK hN hX hC (pfP hP) (pfD hD) hS (kfree (pfD hD) hS hA)) rfl rfl hl.1 rfl (lv_room (Nat.le_of_ble_eq_true rfl)) dL_isRefused_294 ⟨Nat.le_of_ble_eq_true rfl, Nat.le_of_ble_eq_true rfl⟩) (fun r9 ρ H locs hr9 hP hD hS => ?_)
  have hr9 : r9 = (-9000001) := hr9
  subst hr9
  refine W.widen (k := 12) (n := 72) (by decide) (by decide) ?_
  refine lv_ldc hx hb hown (hts (.constant RL 37 (-9000001)) (by decide +kernel)) dL_isRefused_297 ?_
  refine lv_icmp_ne (tgt := 377) hx hb dL_isRefused_299 (by decide) (fun c9 => absurd (by decide +kernel) c9) (fun _ => ?_)
  refine lv_aload_n hx hb dL_isRefused_302 rfl (lv_at hl 5 rfl) ?_
  refine lv_iconst (v := nI 5) hx hb dL_isRefused_303 (by decide +kernel) ?_
  refine lv_iload_n hx hb dL_isRefused_304 rfl (lv_at hl 4 rfl) ?_
  refine lv_if_eq (tgt := 312) hx hb dL_isRefused_305 (by decide) (fun _ => ?_) (fun c9 => absurd (by decide +kernel) c9)
  refine lv_sipush (v := nI 201) hx hb dL_isRefused_312 (by decide +kernel) ?_
  refine kCallP_i (mc := 1) (ms := 6) (T := [(ap, .inl (cI, 6, .inl pf))]) (W1 := fun ρ : HS => wQ cI cZ cO x a t b q ρ) (fun _ _ h => h) hP hD hS hA (fun _ => rfl) (vx_runSW (As := [.ref (x 0), .int (nI 5), .int (nI 201)]) (rest := []) ⟨hx, hb, hml, hown, hts⟩ (c_L_setGains_bad l hst D cI cZ cO cJ x a t b q ρ (nI 5) (nI 201) H.size (by unfold inR; decide +kernel)) (vx_cwSW (rm := rxL_setGains) 3 hts gL_isRefused_L_setGains rfl rfl rfl (by decide +kernel) ⟨Nat.le_of_ble_eq_true rfl, Nat.le_of_ble_eq_true rfl⟩) (kPreSHW hK hN hX hC (pfP hP) (pfD hD) hS (kfree (pfD hD) hS hA)) rfl rfl hl.1 rfl (lv_room (Nat.le_of_ble_eq_true rfl)) dL_isRefused_315 ⟨Nat.le_of_ble_eq_true rfl, Nat.le_of_ble_eq_true rfl⟩) (fun r9 ρ H locs hr9 hP hD hS => ?_)
  have hr9 : r9 = (-9000001) := hr9
  subst hr9
  refine W.widen (k := 13) (n := 78) (by decide) (by decide) ?_
  refine lv_ldc hx hb hown (hts (.constant RL 37 (-9000001)) (by decide +kernel)) dL_isRefused_318 ?_
  refine lv_icmp_ne (tgt := 377) hx hb dL_isRefused_320 (by decide) (fun c9 => absurd (by decide +kernel) c9) (fun _ => ?_)
  refine lv_aload_n hx hb dL_isRefused_323 rfl (lv_at hl 5 rfl) ?_
  refine lv_iload_n hx hb dL_isRefused_324 rfl (lv_at hl 4 rfl) ?_
  refine lv_if_eq (tgt := 334) hx hb dL_isRefused_325 (by decide) (fun _ => ?_) (fun c9 => absurd (by decide +kernel) c9)
  refine lv_sipush (v := nI 5001) hx hb dL_isRefused_334 (by decide +kernel) ?_
  refine lv_sipush (v := nI 2000) hx hb dL_isRefused_337 (by decide +kernel) ?_
  refine kCallP_i (mc := 1) (ms := 6) (T := [(ap, .inl (cI, 6, .inl pf))]) (W1 := fun ρ : HS => wQ cI cZ cO x a t b q ρ) (fun _ _ h => h) hP hD hS hA (fun _ => rfl) (vx_runSW (As := [.ref (x 0), .int (nI 5001), .int (nI 2000)]) (rest := []) ⟨hx, hb, hml, hown, hts⟩ (c_L_setHall_bad l hst D cI cZ cO cJ x a t b q ρ (nI 5001) (nI 2000) H.size (by unfold inR; decide +kernel)) (vx_cwSW (rm := rxL_setHall) 3 hts gL_isRefused_L_setHall rfl rfl rfl (by decide +kernel) ⟨Nat.le_of_ble_eq_true rfl, Nat.le_of_ble_eq_true rfl⟩) (kPreSHW hK hN hX hC (pfP hP) (pfD hD) hS (kfree (pfD hD) hS hA)) rfl rfl hl.1 rfl (lv_room (Nat.le_of_ble_eq_true rfl)) dL_isRefused_340 ⟨Nat.le_of_ble_eq_true rfl, Nat.le_of_ble_eq_true rfl⟩) (fun r9 ρ H locs hr9 hP hD hS => ?_)
  have hr9 : r9 = (-9000001) := hr9
  subst hr9
  refine W.widen (k := 14) (n := 84) (by decide) (by decide) ?_
  refine lv_ldc hx hb hown (hts (.constant RL 37 (-9000001)) (by decide +kernel)) dL_isRefused_343 ?_
  refine lv_icmp_ne (tgt := 377) hx hb dL_isRefused_345 (by decide) (fun c9 => absurd (by decide +kernel) c9) (fun _ => ?_)
  refine lv_aload_n hx hb dL_isRefused_348 rfl (lv_at hl 5 rfl) ?_
  refine lv_sipush (v := nI 2000) hx hb dL_isRefused_349 (by decide +kernel) ?_
  refine lv_iload_n hx hb dL_isRefused_352 rfl (lv_at hl 4 rfl) ?_
  refine lv_if_eq (tgt := 362) hx hb dL_isRefused_353 (by decide) (fun _ => ?_) (fun c9 => absurd (by decide +kernel) c9)
  refine lv_sipush (v := nI 5001) hx hb dL_isRefused_362 (by decide +kernel) ?_
  refine kCallP_i (mc := 1) (ms := 6) (T := [(ap, .inl (cI, 6, .inl pf))]) (W1 := fun ρ : HS => wQ cI cZ cO x a t b q ρ) (fun _ _ h => h) hP hD hS hA (fun _ => rfl) (vx_runSW (As := [.ref (x 0), .int (nI 2000), .int (nI 5001)]) (rest := []) ⟨hx, hb, hml, hown, hts⟩ (c_L_setHall_bad l hst D cI cZ cO cJ x a t b q ρ (nI 2000) (nI 5001) H.size (by unfold inR; decide +kernel)) (vx_cwSW (rm := rxL_setHall) 3 hts gL_isRefused_L_setHall rfl rfl rfl (by decide +kernel) ⟨Nat.le_of_ble_eq_true rfl, Nat.le_of_ble_eq_true rfl⟩) (kPreSHW hK hN hX hC (pfP hP) (pfD hD) hS (kfree (pfD hD) hS hA)) rfl rfl hl.1 rfl (lv_room (Nat.le_of_ble_eq_true rfl)) dL_isRefused_365 ⟨Nat.le_of_ble_eq_true rfl, Nat.le_of_ble_eq_true rfl⟩) (fun r9 ρ H locs hr9 hP hD hS => ?_)
  have hr9 : r9 = (-9000001) := hr9
  subst hr9
  refine W.widen (k := 15) (n := 90) (by decide) (by decide) ?_
  refine lv_ldc hx hb hown (hts (.constant RL 37 (-9000001)) (by decide +kernel)) dL_isRefused_368 ?_
  refine lv_icmp_ne (tgt := 377) hx hb dL_isRefused_370 (by decide) (fun c9 => absurd (by decide +kernel) c9) (fun _ => ?_)
  refine lv_iconst (v := nI 1) hx hb dL_isRefused_373 (by decide +kernel) ?_
  refine lv_goto (tgt := 378) hx hb dL_isRefused_374 (by decide) ?_
  refine lv_istore (lv' := [(8, .int (nI 1)), (6, .long (aF q 8)), (5, .int v8), (4, .int v6), (3, .int (nI 0)), (0, .ref (x 0)), (1, .ref ap), (2, .int (nI X))]) hx hb dL_isRefused_378 hl (by decide) rfl (fun ls hl => ?_)
  refine lv_iconst (v := nI 0) hx hb dL_isRefused_380 (by decide +kernel) ?_
  refine lv_istore (lv' := [(9, .int (nI 0)), (8, .int (nI 1)), (6, .long (aF q 8)), (5, .int v8), (4, .int v6), (3, .int (nI 0)), (0, .ref (x 0)), (1, .ref ap), (2, .int (nI X))]) hx hb dL_isRefused_381 hl (by decide) rfl (fun ls hl => ?_)
  have lp : ∀ (n z : Nat), z + n = 9 → ∀ ρ : HS, ∀ (H : Heap) (locs : List Loc), va_P D vwCl (wQ cI cZ cO x a t b q ρ ++ [(ap, .inl (cI, 6, .inl pf))]) H → va_D A (wQ cI cZ cO x a t b q ρ ++ [(ap, .inl (cI, 6, .inl pf))]) → va_S A s.heap H locs → ∀ ls : Array Slot, lv_has ls 10 [(0, .ref (x 0)), (1, .ref ap), (3, .int (nI 0)), (4, .int v6), (5, .int v8), (6, .long (aF q 8)), (8, .int (nI 1)), (9, .int (nI z))] → W p l e rxL_isRefused s m args below meth c H locs (15 + 2 * z) (90 + 12 * z) Q (F0 m 383 ls []) := by
    intro n
    induction n with
    | zero =>
      intro z hz9 ρ H locs hP hD hS ls hl
      have hz9 : z = 9 := by omega
      subst hz9
      refine lv_iload hx hb dL_isRefused_383 (lv_at hl 7 rfl) ?_
      refine lv_bipush (v := nI 9) hx hb dL_isRefused_385 (by decide +kernel) ?_
      refine lv_icmp_ge (tgt := 462) hx hb dL_isRefused_387 (by decide) (fun _ => ?_) (fun c9 => absurd (nI_le (Nat.le_refl 9) (by decide)) c9)
      refine lv_iconst (v := nI 0) hx hb dL_isRefused_462 (by decide +kernel) ?_
      refine lv_istore (lv' := [(9, .int (nI 0)), (0, .ref (x 0)), (1, .ref ap), (3, .int (nI 0)), (4, .int v6), (5, .int v8), (6, .long (aF q 8)), (8, .int (nI 1))]) hx hb dL_isRefused_463 hl (by decide) rfl (fun ls hl => ?_)
      have lq : ∀ (n2 z2 : Nat), z2 + n2 = 8 → ∀ ρ : HS, ∀ (H : Heap) (locs : List Loc), va_P D vwCl (wQ cI cZ cO x a t b q ρ ++ [(ap, .inl (cI, 6, .inl pf))]) H → va_D A (wQ cI cZ cO x a t b q ρ ++ [(ap, .inl (cI, 6, .inl pf))]) → va_S A s.heap H locs → ∀ ls : Array Slot, lv_has ls 10 [(0, .ref (x 0)), (1, .ref ap), (3, .int (nI 0)), (4, .int v6), (5, .int v8), (6, .long (aF q 8)), (8, .int (nI 1)), (9, .int (nI z2))] → W p l e rxL_isRefused s m args below meth c H locs (33 + z2) (198 + 6 * z2) Q (F0 m 465 ls []) := by
        intro n2
        induction n2 with
        | zero =>
          intro z2 hz9 ρ H locs hP hD hS ls hl
          have hz9 : z2 = 8 := by omega
          subst hz9
          refine lv_iload hx hb dL_isRefused_465 (lv_at hl 7 rfl) ?_
          refine lv_bipush (v := nI 8) hx hb dL_isRefused_467 (by decide +kernel) ?_
          refine lv_icmp_ge (tgt := 519) hx hb dL_isRefused_469 (by decide) (fun _ => ?_) (fun c9 => absurd (nI_le (Nat.le_refl 8) (by decide)) c9)
          refine lv_iload hx hb dL_isRefused_519 (lv_at hl 6 rfl) ?_
          refine lv_if_eq (tgt := 538) hx hb dL_isRefused_521 (by decide) (fun c9 => absurd c9 (by decide +kernel)) (fun _ => ?_)
          refine lv_aload_n hx hb dL_isRefused_524 rfl (lv_at hl 0 rfl) ?_
          refine kCallP_l (mc := 0) (ms := 0) (T := [(ap, .inl (cI, 6, .inl pf))]) (W1 := fun ρ : HS => wQ cI cZ cO x a t b q ρ) (fun _ _ h => h) hP hD hS hA (fun _ => rfl) (va_runS (As := [.ref (x 0)]) (rest := []) ⟨hx, hb, hml, hown, hts⟩ (c_L_all l D cI cZ cO cJ x a t b q ρ H.size hQ) (va_cwS (rm := rmL_all) 1 hts gL_isRefused_L_all rfl rfl rfl (by decide +kernel) ⟨Nat.le_of_ble_eq_true rfl, Nat.le_of_ble_eq_true rfl⟩) (kPreSHW hK hN hX hC (pfP hP) (pfD hD) hS (kfree (pfD hD) hS hA)) rfl rfl hl.1 rfl (lv_room (Nat.le_of_ble_eq_true rfl)) dL_isRefused_525 ⟨Nat.le_of_ble_eq_true rfl, Nat.le_of_ble_eq_true rfl⟩) (fun r9 ρ H locs hr9 hP hD hS => ?_)
          have hr9 : r9 = aF q 8 := hr9
          subst hr9
          refine lv_lload hx hb dL_isRefused_528 (lv_at hl 5 rfl) ?_
          refine k_lcmp0 rfl hx hb dL_isRefused_530 ?_
          refine lv_if_ne (tgt := 538) hx hb dL_isRefused_531 (by decide) (fun c9 => absurd (by decide +kernel) c9) (fun _ => ?_)
          refine lv_iconst (v := nI 1) hx hb dL_isRefused_534 (by decide +kernel) ?_
          refine lv_goto (tgt := 539) hx hb dL_isRefused_535 (by decide) ?_
          refine W.widen (k := 48) (n := 288) (by decide) (by decide) ?_
          subst hQ9
          subst hA9
          exact kRetH_z ρ hx hb hr hlocks hP hS dL_isRefused_539 rfl (by first | rfl | decide +kernel)
        | succ n2 ih2 =>
          intro z2 hz9 ρ H locs hP hD hS ls hl
          have hzb : z2 < 8 := by omega
          refine lv_iload hx hb dL_isRefused_465 (lv_at hl 7 rfl) ?_
          refine lv_bipush (v := nI 8) hx hb dL_isRefused_467 (by decide +kernel) ?_
          refine lv_icmp_ge (tgt := 519) hx hb dL_isRefused_469 (by decide) (fun c9 => absurd c9 (nI_ge hzb (by decide))) (fun _ => ?_)
          refine lv_iload hx hb dL_isRefused_472 (lv_at hl 6 rfl) ?_
          refine lv_if_eq (tgt := 519) hx hb dL_isRefused_474 (by decide) (fun c9 => absurd c9 (by decide +kernel)) (fun _ => ?_)
          refine lv_aload_n hx hb dL_isRefused_477 rfl (lv_at hl 0 rfl) ?_
          refine lv_aload_n hx hb dL_isRefused_478 rfl (lv_at hl 1 rfl) ?_
          refine lv_iconst (v := nI 5) hx hb dL_isRefused_479 (by decide +kernel) ?_
          refine k_ialdT hx hb hK hP 0 0 rfl rfl (i := 5) (by decide) (by decide) dL_isRefused_480 ?_
          refine lv_iload hx hb dL_isRefused_481 (lv_at hl 7 rfl) ?_
          refine lv_ishr hx hb dL_isRefused_483 ?_
          refine lv_iconst (v := nI 1) hx hb dL_isRefused_484 (by decide +kernel) ?_
          refine lv_iand hx hb dL_isRefused_485 ?_
          refine k_as (y := sF (qσ q) z2) (hp.bit (by omega)) ?_
          refine lv_if_ne (tgt := 493) hx hb dL_isRefused_486 (by decide) (fun c3 => ?_) (fun c3 => ?_)
          · refine lv_iconst (v := nI 4) hx hb dL_isRefused_493 (by decide +kernel) ?_
            refine lv_iload hx hb dL_isRefused_494 (lv_at hl 7 rfl) ?_
            refine lv_iconst (v := nI 0) hx hb dL_isRefused_496 (by decide +kernel) ?_
            refine lv_iconst (v := nI 0) hx hb dL_isRefused_497 (by decide +kernel) ?_
            refine kCallP_i (mc := 1) (ms := 6) (T := [(ap, .inl (cI, 6, .inl pf))]) (W1 := fun ρ : HS => wQ cI cZ cO x a t b q ρ) (fun _ _ h => h) hP hD hS hA (fun _ => rfl) (vx_runSW (As := [.ref (x 0), .int (nI 4), .int (nI z2), .int (nI 0), .int (nI 0)]) (rest := []) ⟨hx, hb, hml, hown, hts⟩ (c_L_set_fail_two l hst D cI cZ cO cJ x a t b q ρ z2 (nI 0) (nI 0) H.size (by omega) c3) (vx_cwSW (rm := rxL_set) 5 hts gL_isRefused_L_set rfl rfl rfl (by decide +kernel) ⟨Nat.le_of_ble_eq_true rfl, Nat.le_of_ble_eq_true rfl⟩) (kPreSHW hK hN hX hC (pfP hP) (pfD hD) hS (kfree (pfD hD) hS hA)) rfl rfl hl.1 rfl (lv_room (Nat.le_of_ble_eq_true rfl)) dL_isRefused_498 ⟨by show _ ≤ 48; omega, by show _ ≤ 288; omega⟩) (fun r9 ρ H locs hr9 hP hD hS => ?_)
            have hr9 : r9 = (-9000002) := hr9
            subst hr9
            refine W.widen (k := 33 + z2 + 1) (n := 198 + 6 * z2 + 6) (by omega) (by omega) ?_
            refine lv_ldc hx hb hown (hts (.constant RL 40 (-9000002)) (by decide +kernel)) dL_isRefused_501 ?_
            refine lv_icmp_ne (tgt := 510) hx hb dL_isRefused_503 (by decide) (fun c9 => absurd (by decide +kernel) c9) (fun _ => ?_)
            refine lv_iconst (v := nI 1) hx hb dL_isRefused_506 (by decide +kernel) ?_
            refine lv_goto (tgt := 511) hx hb dL_isRefused_507 (by decide) ?_
            refine lv_istore (lv' := [(8, .int (nI 1)), (0, .ref (x 0)), (1, .ref ap), (3, .int (nI 0)), (4, .int v6), (5, .int v8), (6, .long (aF q 8)), (9, .int (nI z2))]) hx hb dL_isRefused_511 hl (by decide) rfl (fun ls hl => ?_)
            refine lv_iinc (v := nI (z2 + 1)) (lv' := [(9, .int (nI (z2 + 1))), (8, .int (nI 1)), (0, .ref (x 0)), (1, .ref ap), (3, .int (nI 0)), (4, .int v6), (5, .int v8), (6, .long (aF q 8))]) hx hb dL_isRefused_513 hl (k := 7) rfl (k_inc _) (by decide) rfl (fun ls hl => ?_)
            refine lv_goto (tgt := 465) hx hb dL_isRefused_516 (by decide) ?_
            refine W.widen (k := 33 + (z2 + 1)) (n := 198 + 6 * (z2 + 1)) (by omega) (by omega) ?_
            exact ih2 (z2 + 1) (by omega) ρ H locs hP hD hS ls (lv_sub hl [2, 3, 4, 5, 6, 7, 1, 0] rfl)
          · refine lv_iconst (v := nI 5) hx hb dL_isRefused_489 (by decide +kernel) ?_
            refine lv_goto (tgt := 494) hx hb dL_isRefused_490 (by decide) ?_
            refine lv_iload hx hb dL_isRefused_494 (lv_at hl 7 rfl) ?_
            refine lv_iconst (v := nI 0) hx hb dL_isRefused_496 (by decide +kernel) ?_
            refine lv_iconst (v := nI 0) hx hb dL_isRefused_497 (by decide +kernel) ?_
            refine kCallP_i (mc := 1) (ms := 6) (T := [(ap, .inl (cI, 6, .inl pf))]) (W1 := fun ρ : HS => wQ cI cZ cO x a t b q ρ) (fun _ _ h => h) hP hD hS hA (fun _ => rfl) (vx_runSW (As := [.ref (x 0), .int (nI 5), .int (nI z2), .int (nI 0), .int (nI 0)]) (rest := []) ⟨hx, hb, hml, hown, hts⟩ (c_L_set_repair_two l hst D cI cZ cO cJ x a t b q ρ z2 (nI 0) (nI 0) H.size (by omega) c3) (vx_cwSW (rm := rxL_set) 5 hts gL_isRefused_L_set rfl rfl rfl (by decide +kernel) ⟨Nat.le_of_ble_eq_true rfl, Nat.le_of_ble_eq_true rfl⟩) (kPreSHW hK hN hX hC (pfP hP) (pfD hD) hS (kfree (pfD hD) hS hA)) rfl rfl hl.1 rfl (lv_room (Nat.le_of_ble_eq_true rfl)) dL_isRefused_498 ⟨by show _ ≤ 48; omega, by show _ ≤ 288; omega⟩) (fun r9 ρ H locs hr9 hP hD hS => ?_)
            have hr9 : r9 = (-9000002) := hr9
            subst hr9
            refine W.widen (k := 33 + z2 + 1) (n := 198 + 6 * z2 + 6) (by omega) (by omega) ?_
            refine lv_ldc hx hb hown (hts (.constant RL 40 (-9000002)) (by decide +kernel)) dL_isRefused_501 ?_
            refine lv_icmp_ne (tgt := 510) hx hb dL_isRefused_503 (by decide) (fun c9 => absurd (by decide +kernel) c9) (fun _ => ?_)
            refine lv_iconst (v := nI 1) hx hb dL_isRefused_506 (by decide +kernel) ?_
            refine lv_goto (tgt := 511) hx hb dL_isRefused_507 (by decide) ?_
            refine lv_istore (lv' := [(8, .int (nI 1)), (0, .ref (x 0)), (1, .ref ap), (3, .int (nI 0)), (4, .int v6), (5, .int v8), (6, .long (aF q 8)), (9, .int (nI z2))]) hx hb dL_isRefused_511 hl (by decide) rfl (fun ls hl => ?_)
            refine lv_iinc (v := nI (z2 + 1)) (lv' := [(9, .int (nI (z2 + 1))), (8, .int (nI 1)), (0, .ref (x 0)), (1, .ref ap), (3, .int (nI 0)), (4, .int v6), (5, .int v8), (6, .long (aF q 8))]) hx hb dL_isRefused_513 hl (k := 7) rfl (k_inc _) (by decide) rfl (fun ls hl => ?_)
            refine lv_goto (tgt := 465) hx hb dL_isRefused_516 (by decide) ?_
            refine W.widen (k := 33 + (z2 + 1)) (n := 198 + 6 * (z2 + 1)) (by omega) (by omega) ?_
            exact ih2 (z2 + 1) (by omega) ρ H locs hP hD hS ls (lv_sub hl [2, 3, 4, 5, 6, 7, 1, 0] rfl)
      refine W.widen (k := 33) (n := 198) (by decide) (by decide) ?_
      exact lq 8 0 rfl ρ H locs hP hD hS ls (lv_sub hl [1, 2, 3, 4, 5, 6, 7, 0] rfl)
    | succ n ih =>
      intro z hz9 ρ H locs hP hD hS ls hl
      have hzb : z < 9 := by omega
      refine lv_iload hx hb dL_isRefused_383 (lv_at hl 7 rfl) ?_
      refine lv_bipush (v := nI 9) hx hb dL_isRefused_385 (by decide +kernel) ?_
      refine lv_icmp_ge (tgt := 462) hx hb dL_isRefused_387 (by decide) (fun c9 => absurd c9 (nI_ge hzb (by decide))) (fun _ => ?_)
      refine lv_iload hx hb dL_isRefused_390 (lv_at hl 6 rfl) ?_
      refine lv_if_eq (tgt := 462) hx hb dL_isRefused_392 (by decide) (fun c9 => absurd c9 (by decide +kernel)) (fun _ => ?_)
      refine lv_aload_n hx hb dL_isRefused_395 rfl (lv_at hl 0 rfl) ?_
      refine lv_iload hx hb dL_isRefused_396 (lv_at hl 7 rfl) ?_
      refine lv_iload hx hb dL_isRefused_398 (lv_at hl 7 rfl) ?_
      refine lv_iconst (v := nI 2) hx hb dL_isRefused_400 (by decide +kernel) ?_
      by_cases c1 : z < 2
      · refine lv_icmp_ge (tgt := 409) hx hb dL_isRefused_401 (by decide) (fun c9 => absurd c9 (nI_ge c1 (by decide))) (fun _ => ?_)
        refine lv_iload hx hb dL_isRefused_404 (lv_at hl 4 rfl) ?_
        refine lv_goto (tgt := 411) hx hb dL_isRefused_406 (by decide) ?_
        refine lv_iconst (v := nI 5) hx hb dL_isRefused_411 (by decide +kernel) ?_
        refine kCallP_i (mc := 1) (ms := 6) (T := [(ap, .inl (cI, 6, .inl pf))]) (W1 := fun ρ : HS => wQ cI cZ cO x a t b q ρ) (fun _ _ h => h) hP hD hS hA (fun _ => rfl) (vx_runSW (As := [.ref (x 0), .int (nI z), .int v8, .int (nI 5)]) (rest := []) ⟨hx, hb, hml, hown, hts⟩ (c_L_of_bad l hst D cI cZ cO cJ x a t b q ρ z v8 (nI 5) H.size (by omega) (by unfold badOf; rw [if_pos c1]; exact h8)) (vx_cwSW (rm := rxL_of) 4 hts gL_isRefused_L_of rfl rfl rfl (by decide +kernel) ⟨Nat.le_of_ble_eq_true rfl, Nat.le_of_ble_eq_true rfl⟩) (kPreSHW hK hN hX hC (pfP hP) (pfD hD) hS (kfree (pfD hD) hS hA)) rfl rfl hl.1 rfl (lv_room (Nat.le_of_ble_eq_true rfl)) dL_isRefused_412 ⟨by show _ ≤ 48; omega, by show _ ≤ 288; omega⟩) (fun r9 ρ H locs hr9 hP hD hS => ?_)
        have hr9 : r9 = (-9000001) := hr9
        subst hr9
        refine W.widen (k := 15 + 2 * z + 1) (n := 90 + 12 * z + 6) (by omega) (by omega) ?_
        refine lv_ldc hx hb hown (hts (.constant RL 37 (-9000001)) (by decide +kernel)) dL_isRefused_415 ?_
        refine lv_icmp_ne (tgt := 453) hx hb dL_isRefused_417 (by decide) (fun c9 => absurd (by decide +kernel) c9) (fun _ => ?_)
        refine lv_iload hx hb dL_isRefused_420 (lv_at hl 7 rfl) ?_
        refine lv_bipush (v := nI 6) hx hb dL_isRefused_422 (by decide +kernel) ?_
        refine lv_icmp_lt (tgt := 449) hx hb dL_isRefused_424 (by decide) (fun _ => ?_) (fun c9 => absurd (nI_lt (by omega) (by decide)) c9)
        refine lv_iconst (v := nI 1) hx hb dL_isRefused_449 (by decide +kernel) ?_
        refine lv_goto (tgt := 454) hx hb dL_isRefused_450 (by decide) ?_
        refine lv_istore (lv' := [(8, .int (nI 1)), (0, .ref (x 0)), (1, .ref ap), (3, .int (nI 0)), (4, .int v6), (5, .int v8), (6, .long (aF q 8)), (9, .int (nI z))]) hx hb dL_isRefused_454 hl (by decide) rfl (fun ls hl => ?_)
        refine lv_iinc (v := nI (z + 1)) (lv' := [(9, .int (nI (z + 1))), (8, .int (nI 1)), (0, .ref (x 0)), (1, .ref ap), (3, .int (nI 0)), (4, .int v6), (5, .int v8), (6, .long (aF q 8))]) hx hb dL_isRefused_456 hl (k := 7) rfl (k_inc _) (by decide) rfl (fun ls hl => ?_)
        refine lv_goto (tgt := 383) hx hb dL_isRefused_459 (by decide) ?_
        refine W.widen (k := 15 + 2 * (z + 1)) (n := 90 + 12 * (z + 1)) (by omega) (by omega) ?_
        exact ih (z + 1) (by omega) ρ H locs hP hD hS ls (lv_sub hl [2, 3, 4, 5, 6, 7, 1, 0] rfl)
      · refine lv_icmp_ge (tgt := 409) hx hb dL_isRefused_401 (by decide) (fun _ => ?_) (fun c9 => absurd (nI_le (by omega) (by omega)) c9)
        by_cases c2 : z < 6
        · refine lv_iload hx hb dL_isRefused_409 (lv_at hl 3 rfl) ?_
          refine lv_iconst (v := nI 5) hx hb dL_isRefused_411 (by decide +kernel) ?_
          refine kCallP_i (mc := 1) (ms := 6) (T := [(ap, .inl (cI, 6, .inl pf))]) (W1 := fun ρ : HS => wQ cI cZ cO x a t b q ρ) (fun _ _ h => h) hP hD hS hA (fun _ => rfl) (vx_runSW (As := [.ref (x 0), .int (nI z), .int v6, .int (nI 5)]) (rest := []) ⟨hx, hb, hml, hown, hts⟩ (c_L_of_bad l hst D cI cZ cO cJ x a t b q ρ z v6 (nI 5) H.size (by omega) (by unfold badOf; rw [if_neg c1, if_pos c2]; exact h6)) (vx_cwSW (rm := rxL_of) 4 hts gL_isRefused_L_of rfl rfl rfl (by decide +kernel) ⟨Nat.le_of_ble_eq_true rfl, Nat.le_of_ble_eq_true rfl⟩) (kPreSHW hK hN hX hC (pfP hP) (pfD hD) hS (kfree (pfD hD) hS hA)) rfl rfl hl.1 rfl (lv_room (Nat.le_of_ble_eq_true rfl)) dL_isRefused_412 ⟨by show _ ≤ 48; omega, by show _ ≤ 288; omega⟩) (fun r9 ρ H locs hr9 hP hD hS => ?_)
          have hr9 : r9 = (-9000001) := hr9
          subst hr9
          refine W.widen (k := 15 + 2 * z + 1) (n := 90 + 12 * z + 6) (by omega) (by omega) ?_
          refine lv_ldc hx hb hown (hts (.constant RL 37 (-9000001)) (by decide +kernel)) dL_isRefused_415 ?_
          refine lv_icmp_ne (tgt := 453) hx hb dL_isRefused_417 (by decide) (fun c9 => absurd (by decide +kernel) c9) (fun _ => ?_)
          refine lv_iload hx hb dL_isRefused_420 (lv_at hl 7 rfl) ?_
          refine lv_bipush (v := nI 6) hx hb dL_isRefused_422 (by decide +kernel) ?_
          refine lv_icmp_lt (tgt := 449) hx hb dL_isRefused_424 (by decide) (fun _ => ?_) (fun c9 => absurd (nI_lt c2 (by decide)) c9)
          refine lv_iconst (v := nI 1) hx hb dL_isRefused_449 (by decide +kernel) ?_
          refine lv_goto (tgt := 454) hx hb dL_isRefused_450 (by decide) ?_
          refine lv_istore (lv' := [(8, .int (nI 1)), (0, .ref (x 0)), (1, .ref ap), (3, .int (nI 0)), (4, .int v6), (5, .int v8), (6, .long (aF q 8)), (9, .int (nI z))]) hx hb dL_isRefused_454 hl (by decide) rfl (fun ls hl => ?_)
          refine lv_iinc (v := nI (z + 1)) (lv' := [(9, .int (nI (z + 1))), (8, .int (nI 1)), (0, .ref (x 0)), (1, .ref ap), (3, .int (nI 0)), (4, .int v6), (5, .int v8), (6, .long (aF q 8))]) hx hb dL_isRefused_456 hl (k := 7) rfl (k_inc _) (by decide) rfl (fun ls hl => ?_)
          refine lv_goto (tgt := 383) hx hb dL_isRefused_459 (by decide) ?_
          refine W.widen (k := 15 + 2 * (z + 1)) (n := 90 + 12 * (z + 1)) (by omega) (by omega) ?_
          exact ih (z + 1) (by omega) ρ H locs hP hD hS ls (lv_sub hl [2, 3, 4, 5, 6, 7, 1, 0] rfl)
        · refine lv_iload hx hb dL_isRefused_409 (lv_at hl 3 rfl) ?_
          refine lv_iconst (v := nI 5) hx hb dL_isRefused_411 (by decide +kernel) ?_
          refine kCallP_i (mc := 1) (ms := 6) (T := [(ap, .inl (cI, 6, .inl pf))]) (W1 := fun ρ : HS => wQ cI cZ cO x a t b q ρ) (fun _ _ h => h) hP hD hS hA (fun _ => rfl) (vx_runSW (As := [.ref (x 0), .int (nI z), .int v6, .int (nI 5)]) (rest := []) ⟨hx, hb, hml, hown, hts⟩ (c_L_of_bad l hst D cI cZ cO cJ x a t b q ρ z v6 (nI 5) H.size (by omega) (by unfold badOf; rw [if_neg c1, if_neg c2]; exact (fun g => h6 g.1))) (vx_cwSW (rm := rxL_of) 4 hts gL_isRefused_L_of rfl rfl rfl (by decide +kernel) ⟨Nat.le_of_ble_eq_true rfl, Nat.le_of_ble_eq_true rfl⟩) (kPreSHW hK hN hX hC (pfP hP) (pfD hD) hS (kfree (pfD hD) hS hA)) rfl rfl hl.1 rfl (lv_room (Nat.le_of_ble_eq_true rfl)) dL_isRefused_412 ⟨by show _ ≤ 48; omega, by show _ ≤ 288; omega⟩) (fun r9 ρ H locs hr9 hP hD hS => ?_)
          have hr9 : r9 = (-9000001) := hr9
          subst hr9
          refine W.widen (k := 15 + 2 * z + 1) (n := 90 + 12 * z + 6) (by omega) (by omega) ?_
          refine lv_ldc hx hb hown (hts (.constant RL 37 (-9000001)) (by decide +kernel)) dL_isRefused_415 ?_
          refine lv_icmp_ne (tgt := 453) hx hb dL_isRefused_417 (by decide) (fun c9 => absurd (by decide +kernel) c9) (fun _ => ?_)
          refine lv_iload hx hb dL_isRefused_420 (lv_at hl 7 rfl) ?_
          refine lv_bipush (v := nI 6) hx hb dL_isRefused_422 (by decide +kernel) ?_
          refine lv_icmp_lt (tgt := 449) hx hb dL_isRefused_424 (by decide) (fun c9 => absurd c9 (nI_nlt (by omega) (by omega))) (fun _ => ?_)
          refine lv_aload_n hx hb dL_isRefused_427 rfl (lv_at hl 0 rfl) ?_
          refine lv_iload hx hb dL_isRefused_428 (lv_at hl 7 rfl) ?_
          refine lv_iconst (v := nI 1) hx hb dL_isRefused_430 (by decide +kernel) ?_
          refine lv_iload_n hx hb dL_isRefused_431 rfl (lv_at hl 2 rfl) ?_
          refine lv_if_eq (tgt := 439) hx hb dL_isRefused_432 (by decide) (fun _ => ?_) (fun c9 => absurd (by decide +kernel) c9)
          refine lv_bipush (v := nI 61) hx hb dL_isRefused_439 (by decide +kernel) ?_
          refine kCallP_i (mc := 1) (ms := 6) (T := [(ap, .inl (cI, 6, .inl pf))]) (W1 := fun ρ : HS => wQ cI cZ cO x a t b q ρ) (fun _ _ h => h) hP hD hS hA (fun _ => rfl) (vx_runSW (As := [.ref (x 0), .int (nI z), .int (nI 1), .int (nI 61)]) (rest := []) ⟨hx, hb, hml, hown, hts⟩ (c_L_of_bad l hst D cI cZ cO cJ x a t b q ρ z (nI 1) (nI 61) H.size (by omega) (by unfold badOf; rw [if_neg c1, if_neg c2]; unfold inR; decide +kernel)) (vx_cwSW (rm := rxL_of) 4 hts gL_isRefused_L_of rfl rfl rfl (by decide +kernel) ⟨Nat.le_of_ble_eq_true rfl, Nat.le_of_ble_eq_true rfl⟩) (kPreSHW hK hN hX hC (pfP hP) (pfD hD) hS (kfree (pfD hD) hS hA)) rfl rfl hl.1 rfl (lv_room (Nat.le_of_ble_eq_true rfl)) dL_isRefused_441 ⟨by show _ ≤ 48; omega, by show _ ≤ 288; omega⟩) (fun r9 ρ H locs hr9 hP hD hS => ?_)
          have hr9 : r9 = (-9000001) := hr9
          subst hr9
          refine W.widen (k := 15 + 2 * z + 1 + 1) (n := 90 + 12 * z + 6 + 6) (by omega) (by omega) ?_
          refine lv_ldc hx hb hown (hts (.constant RL 37 (-9000001)) (by decide +kernel)) dL_isRefused_444 ?_
          refine lv_icmp_ne (tgt := 453) hx hb dL_isRefused_446 (by decide) (fun c9 => absurd (by decide +kernel) c9) (fun _ => ?_)
          refine lv_iconst (v := nI 1) hx hb dL_isRefused_449 (by decide +kernel) ?_
          refine lv_goto (tgt := 454) hx hb dL_isRefused_450 (by decide) ?_
          refine lv_istore (lv' := [(8, .int (nI 1)), (0, .ref (x 0)), (1, .ref ap), (3, .int (nI 0)), (4, .int v6), (5, .int v8), (6, .long (aF q 8)), (9, .int (nI z))]) hx hb dL_isRefused_454 hl (by decide) rfl (fun ls hl => ?_)
          refine lv_iinc (v := nI (z + 1)) (lv' := [(9, .int (nI (z + 1))), (8, .int (nI 1)), (0, .ref (x 0)), (1, .ref ap), (3, .int (nI 0)), (4, .int v6), (5, .int v8), (6, .long (aF q 8))]) hx hb dL_isRefused_456 hl (k := 7) rfl (k_inc _) (by decide) rfl (fun ls hl => ?_)
          refine lv_goto (tgt := 383) hx hb dL_isRefused_459 (by decide) ?_
          refine W.widen (k := 15 + 2 * (z + 1)) (n := 90 + 12 * (z + 1)) (by omega) (by omega) ?_
          exact ih (z + 1) (by omega) ρ H locs hP hD hS ls (lv_sub hl [2, 3, 4, 5, 6, 7, 1, 0] rfl)
  exact lp 9 0 rfl ρ H locs hP hD hS ls (lv_sub hl [6, 7, 5, 4, 3, 2, 1, 0] rfl)

theorem c_L_isRefused (l : Launch) (hst : l.stackTraces = false) (D : va_G) (cI cZ cO cJ : ClassId) (x a t b : Nat → Nat) (q : QS) (ρ : HS) (ap : Nat) (pf : Nat → Int32) (B : Nat) (X : Nat) (sz : Nat) (hQ : QOK q) (hp : PR pf q B) (hX9 : X < 2147483648) : kMH l yL_isRefused wsL_isRefused rxL_isRefused D (kT cI cZ cO cJ) [.ref (x 0), .ref ap, .int (nI X)] (wQ cI cZ cO x a t b q ρ ++ [(ap, .inl (cI, 6, .inl pf))]) (fun u : HS => wQ cI cZ cO x a t b q u ++ [(ap, .inl (cI, 6, .inl pf))]) 48 288 sz (nI 1) := by
  rcases (show X % 2 = 0 ∨ X % 2 = 1 by omega) with h | h
  · exact c_L_isRefused_low l hst D cI cZ cO cJ x a t b q ρ ap pf B X sz hQ hp hX9 h
  · exact c_L_isRefused_high l hst D cI cZ cO cJ x a t b q ρ ap pf B X sz hQ hp hX9 h
