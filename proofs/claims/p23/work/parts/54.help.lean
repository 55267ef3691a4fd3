/-! ===== the law's helpers ===== -/
abbrev rmL_set : Room := { frames := 5, cells := 0, slots := 0, locals := 115 }
set_option maxHeartbeats 4000000 in
set_option maxRecDepth 100000 in
/-- set: setLoad -/
theorem c_L_set_setLoad (l : Launch) (D : va_G) (cI cZ cO cJ : ClassId) (x a t b : Nat → Nat) (q : QS) (ρ : HS) (z : Nat) (v c9 : Int32) (sz : Nat) (hz : z < 6) (hv : inR v (nI 0) (nI 200)) : kMH l yL_set wsL_set rmL_set D (kT cI cZ cO cJ) [.ref (x 0), .int (nI 0), .int (nI z), .int v, .int c9] (wQ cI cZ cO x a t b q ρ) (fun u : HS => wQ cI cZ cO x a t b (qsLoad q z v) u) 0 0 sz (qLo q z) := by
  refine kEnterH (cc := cL_set) (maxL := 6) (ret := some .int) (hh := [(0, 87, 88, 35), (0, 87, 93, 38)]) (by decide +kernel) rfl (Nat.le_of_ble_eq_true rfl) ?_
  intro p e s m below meth c args hx hb hr hml hts hown hlocks htab hK hN A hA9 Q hQ9 hP hD hsz hS hA hX hC ls hl
  have hl : lv_has ls 6 [(0, .ref (x 0)), (1, .int (nI 0)), (2, .int (nI z)), (3, .int v), (4, .int c9)] := hl
  obtain ⟨H, hH9⟩ : ∃ H, H = s.heap := ⟨_, rfl⟩
  rw [← hH9] at hP ⊢
  have hS : va_S A s.heap H [] := by rw [hH9]; exact va_S.rf
  have hlocs : ∃ locs : List Loc, locs = [] := ⟨_, rfl⟩
  obtain ⟨locs, hlocs⟩ := hlocs
  rw [← hlocs] at hS ⊢
  have hP : va_P D vwCl (wQ cI cZ cO x a t b q ρ ++ []) H := by rw [List.append_nil]; exact hP
  have hD : va_D A (wQ cI cZ cO x a t b q ρ ++ []) := by rw [List.append_nil]; exact hD
  refine lv_iload_n hx hb dL_set_0 rfl (lv_at hl 1 rfl) ?_
  refine lv_if_ne (tgt := 13) hx hb dL_set_1 (by decide) (fun c9 => absurd (by decide +kernel) c9) (fun _ => ?_)
  refine lv_aload_n hx hb dL_set_4 rfl (lv_at hl 0 rfl) ?_
  refine lv_iload_n hx hb dL_set_5 rfl (lv_at hl 2 rfl) ?_
  refine lv_iload_n hx hb dL_set_6 rfl (lv_at hl 3 rfl) ?_
  refine kCallP_i (mc := 0) (ms := 0) (T := []) (W1 := fun _ : Unit => wQ cI cZ cO x a t b (qsLoad q z v) ρ) (fun _ _ h => h) hP hD hS hA (fun _ => rfl) (va_runV (As := [.int (nI z), .int v]) (rest := []) ⟨hx, hb, hml, hown, hts⟩ (c_X2_setLoad l D cI cZ cO cJ x a t b (qK q) (qHo q) (sT (qσ q)) (sE (qσ q)) (sD (qσ q)) (sF (qσ q)) (sS (qσ q)) (sC (qσ q)) (sL (qσ q)) (sT ρ) (sE ρ) (sD ρ) (sF ρ) (sS ρ) (sC ρ) (sL ρ) (qLo q) (qSe q) (qEf q) (qgp q) (qgi q) (qam q) (qli q) (qdl q) z v H.size hz hv.1 hv.2) (cwV (rm := rmX2_setLoad) 2 hts gL_set_X2_setLoad rfl rfl rfl (by decide +kernel) ⟨Nat.le_of_ble_eq_true rfl, Nat.le_of_ble_eq_true rfl⟩) (kPreVW hK hN (pfP hP) (pfD hD) (va_recv hK (pfP hP) (ci := 2) (q0 := 0) rfl rfl)) rfl rfl hl.1 rfl (lv_room (Nat.le_of_ble_eq_true rfl)) dL_set_7 ⟨Nat.zero_le _, Nat.zero_le _⟩) (fun r9 u9 H locs hr9 hP hD hS => ?_)
  subst hr9
  refine lv_goto (tgt := 87) hx hb dL_set_10 (by decide) ?_
  subst hQ9
  subst hA9
  rw [List.append_nil] at hP
  exact kRetH_i ρ hx hb hr hlocks hP hS dL_set_87 rfl

set_option maxHeartbeats 4000000 in
set_option maxRecDepth 100000 in
/-- set: setSetpoint -/
theorem c_L_set_setSetpoint (l : Launch) (D : va_G) (cI cZ cO cJ : ClassId) (x a t b : Nat → Nat) (q : QS) (ρ : HS) (z : Nat) (v c9 : Int32) (sz : Nat) (hz : z < 6) (hv : inR v (nI 1500) (nI 3500)) : kMH l yL_set wsL_set rmL_set D (kT cI cZ cO cJ) [.ref (x 0), .int (nI 1), .int (nI z), .int v, .int c9] (wQ cI cZ cO x a t b q ρ) (fun u : HS => wQ cI cZ cO x a t b (qsSet q z v) u) 0 0 sz (qSe q z) := by
  refine kEnterH (cc := cL_set) (maxL := 6) (ret := some .int) (hh := [(0, 87, 88, 35), (0, 87, 93, 38)]) (by decide +kernel) rfl (Nat.le_of_ble_eq_true rfl) ?_
  intro p e s m below meth c args hx hb hr hml hts hown hlocks htab hK hN A hA9 Q hQ9 hP hD hsz hS hA hX hC ls hl
  have hl : lv_has ls 6 [(0, .ref (x 0)), (1, .int (nI 1)), (2, .int (nI z)), (3, .int v), (4, .int c9)] := hl
  obtain ⟨H, hH9⟩ : ∃ H, H = s.heap := ⟨_, rfl⟩
  rw [← hH9] at hP ⊢
  have hS : va_S A s.heap H [] := by rw [hH9]; exact va_S.rf
  have hlocs : ∃ locs : List Loc, locs = [] := ⟨_, rfl⟩
  obtain ⟨locs, hlocs⟩ := hlocs
  rw [← hlocs] at hS ⊢
  have hP : va_P D vwCl (wQ cI cZ cO x a t b q ρ ++ []) H := by rw [List.append_nil]; exact hP
  have hD : va_D A (wQ cI cZ cO x a t b q ρ ++ []) := by rw [List.append_nil]; exact hD
  refine lv_iload_n hx hb dL_set_0 rfl (lv_at hl 1 rfl) ?_
  refine lv_if_ne (tgt := 13) hx hb dL_set_1 (by decide) (fun _ => ?_) (fun c9 => absurd c9 (by decide +kernel))
  refine lv_iload_n hx hb dL_set_13 rfl (lv_at hl 1 rfl) ?_
  refine lv_iconst (v := nI 1) hx hb dL_set_14 (by decide +kernel) ?_
  refine lv_icmp_ne (tgt := 27) hx hb dL_set_15 (by decide) (fun c9 => absurd (by decide +kernel) c9) (fun _ => ?_)
  refine lv_aload_n hx hb dL_set_18 rfl (lv_at hl 0 rfl) ?_
  refine lv_iload_n hx hb dL_set_19 rfl (lv_at hl 2 rfl) ?_
  refine lv_iload_n hx hb dL_set_20 rfl (lv_at hl 3 rfl) ?_
  refine kCallP_i (mc := 0) (ms := 0) (T := []) (W1 := fun _ : Unit => wQ cI cZ cO x a t b (qsSet q z v) ρ) (fun _ _ h => h) hP hD hS hA (fun _ => rfl) (va_runV (As := [.int (nI z), .int v]) (rest := []) ⟨hx, hb, hml, hown, hts⟩ (c_X2_setSetpoint l D cI cZ cO cJ x a t b (qK q) (qHo q) (sT (qσ q)) (sE (qσ q)) (sD (qσ q)) (sF (qσ q)) (sS (qσ q)) (sC (qσ q)) (sL (qσ q)) (sT ρ) (sE ρ) (sD ρ) (sF ρ) (sS ρ) (sC ρ) (sL ρ) (qLo q) (qSe q) (qEf q) (qgp q) (qgi q) (qam q) (qli q) (qdl q) z v H.size hz hv.1 hv.2) (cwV (rm := rmX2_setSetpoint) 2 hts gL_set_X2_setSetpoint rfl rfl rfl (by decide +kernel) ⟨Nat.le_of_ble_eq_true rfl, Nat.le_of_ble_eq_true rfl⟩) (kPreVW hK hN (pfP hP) (pfD hD) (va_recv hK (pfP hP) (ci := 2) (q0 := 0) rfl rfl)) rfl rfl hl.1 rfl (lv_room (Nat.le_of_ble_eq_true rfl)) dL_set_21 ⟨Nat.zero_le _, Nat.zero_le _⟩) (fun r9 u9 H locs hr9 hP hD hS => ?_)
  subst hr9
  refine lv_goto (tgt := 87) hx hb dL_set_24 (by decide) ?_
  subst hQ9
  subst hA9
  rw [List.append_nil] at hP
  exact kRetH_i ρ hx hb hr hlocks hP hS dL_set_87 rfl

set_option maxHeartbeats 4000000 in
set_option maxRecDepth 100000 in
/-- set: setEffect -/
theorem c_L_set_setEffect (l : Launch) (D : va_G) (cI cZ cO cJ : ClassId) (x a t b : Nat → Nat) (q : QS) (ρ : HS) (f z : Nat) (v : Int32) (sz : Nat) (hf : f < 8) (hz : z < 6) (hv : inR v (nI 0) (nI 100)) : kMH l yL_set wsL_set rmL_set D (kT cI cZ cO cJ) [.ref (x 0), .int (nI 2), .int (nI f), .int (nI z), .int v] (wQ cI cZ cO x a t b q ρ) (fun u : HS => wQ cI cZ cO x a t b (qsEff q f z v) u) 0 0 sz (qEf q f z) := by
  refine kEnterH (cc := cL_set) (maxL := 6) (ret := some .int) (hh := [(0, 87, 88, 35), (0, 87, 93, 38)]) (by decide +kernel) rfl (Nat.le_of_ble_eq_true rfl) ?_
  intro p e s m below meth c args hx hb hr hml hts hown hlocks htab hK hN A hA9 Q hQ9 hP hD hsz hS hA hX hC ls hl
  have hl : lv_has ls 6 [(0, .ref (x 0)), (1, .int (nI 2)), (2, .int (nI f)), (3, .int (nI z)), (4, .int v)] := hl
  obtain ⟨H, hH9⟩ : ∃ H, H = s.heap := ⟨_, rfl⟩
  rw [← hH9] at hP ⊢
  have hS : va_S A s.heap H [] := by rw [hH9]; exact va_S.rf
  have hlocs : ∃ locs : List Loc, locs = [] := ⟨_, rfl⟩
  obtain ⟨locs, hlocs⟩ := hlocs
  rw [← hlocs] at hS ⊢
  have hP : va_P D vwCl (wQ cI cZ cO x a t b q ρ ++ []) H := by rw [List.append_nil]; exact hP
  have hD : va_D A (wQ cI cZ cO x a t b q ρ ++ []) := by rw [List.append_nil]; exact hD
  refine lv_iload_n hx hb dL_set_0 rfl (lv_at hl 1 rfl) ?_
  refine lv_if_ne (tgt := 13) hx hb dL_set_1 (by decide) (fun _ => ?_) (fun c9 => absurd c9 (by decide +kernel))
  refine lv_iload_n hx hb dL_set_13 rfl (lv_at hl 1 rfl) ?_
  refine lv_iconst (v := nI 1) hx hb dL_set_14 (by decide +kernel) ?_
  refine lv_icmp_ne (tgt := 27) hx hb dL_set_15 (by decide) (fun _ => ?_) (fun c9 => absurd c9 (by decide +kernel))
  refine lv_iload_n hx hb dL_set_27 rfl (lv_at hl 1 rfl) ?_
  refine lv_iconst (v := nI 2) hx hb dL_set_28 (by decide +kernel) ?_
  refine lv_icmp_ne (tgt := 43) hx hb dL_set_29 (by decide) (fun c9 => absurd (by decide +kernel) c9) (fun _ => ?_)
  refine lv_aload_n hx hb dL_set_32 rfl (lv_at hl 0 rfl) ?_
  refine lv_iload_n hx hb dL_set_33 rfl (lv_at hl 2 rfl) ?_
  refine lv_iload_n hx hb dL_set_34 rfl (lv_at hl 3 rfl) ?_
  refine lv_iload hx hb dL_set_35 (lv_at hl 4 rfl) ?_
  refine kCallP_i (mc := 0) (ms := 0) (T := []) (W1 := fun _ : Unit => wQ cI cZ cO x a t b (qsEff q f z v) ρ) (fun _ _ h => h) hP hD hS hA (fun _ => rfl) (va_runV (As := [.int (nI f), .int (nI z), .int v]) (rest := []) ⟨hx, hb, hml, hown, hts⟩ (c_X2_setEffect l D cI cZ cO cJ x a t b (qK q) (qHo q) (sT (qσ q)) (sE (qσ q)) (sD (qσ q)) (sF (qσ q)) (sS (qσ q)) (sC (qσ q)) (sL (qσ q)) (sT ρ) (sE ρ) (sD ρ) (sF ρ) (sS ρ) (sC ρ) (sL ρ) (qLo q) (qSe q) (qEf q) (qgp q) (qgi q) (qam q) (qli q) (qdl q) f z v H.size hf hz hv.1 hv.2) (cwV (rm := rmX2_setEffect) 3 hts gL_set_X2_setEffect rfl rfl rfl (by decide +kernel) ⟨Nat.le_of_ble_eq_true rfl, Nat.le_of_ble_eq_true rfl⟩) (kPreVW hK hN (pfP hP) (pfD hD) (va_recv hK (pfP hP) (ci := 2) (q0 := 0) rfl rfl)) rfl rfl hl.1 rfl (lv_room (Nat.le_of_ble_eq_true rfl)) dL_set_37 ⟨Nat.zero_le _, Nat.zero_le _⟩) (fun r9 u9 H locs hr9 hP hD hS => ?_)
  subst hr9
  refine lv_goto (tgt := 87) hx hb dL_set_40 (by decide) ?_
  subst hQ9
  subst hA9
  rw [List.append_nil] at hP
  exact kRetH_i ρ hx hb hr hlocks hP hS dL_set_87 rfl

set_option maxHeartbeats 4000000 in
set_option maxRecDepth 100000 in
/-- set: setDelay -/
theorem c_L_set_setDelay (l : Launch) (D : va_G) (cI cZ cO cJ : ClassId) (x a t b : Nat → Nat) (q : QS) (ρ : HS) (d : Nat) (b9 c9 : Int32) (sz : Nat) (hd : d < 9) : kMH l yL_set wsL_set rmL_set D (kT cI cZ cO cJ) [.ref (x 0), .int (nI 3), .int (nI d), .int b9, .int c9] (wQ cI cZ cO x a t b q ρ) (fun u : HS => wQ cI cZ cO x a t b (qsDelay q d) u) 0 0 sz (nI (qdl q)) := by
  refine kEnterH (cc := cL_set) (maxL := 6) (ret := some .int) (hh := [(0, 87, 88, 35), (0, 87, 93, 38)]) (by decide +kernel) rfl (Nat.le_of_ble_eq_true rfl) ?_
  intro p e s m below meth c args hx hb hr hml hts hown hlocks htab hK hN A hA9 Q hQ9 hP hD hsz hS hA hX hC ls hl
  have hl : lv_has ls 6 [(0, .ref (x 0)), (1, .int (nI 3)), (2, .int (nI d)), (3, .int b9), (4, .int c9)] := hl
  obtain ⟨H, hH9⟩ : ∃ H, H = s.heap := ⟨_, rfl⟩
  rw [← hH9] at hP ⊢
  have hS : va_S A s.heap H [] := by rw [hH9]; exact va_S.rf
  have hlocs : ∃ locs : List Loc, locs = [] := ⟨_, rfl⟩
  obtain ⟨locs, hlocs⟩ := hlocs
  rw [← hlocs] at hS ⊢
  have hP : va_P D vwCl (wQ cI cZ cO x a t b q ρ ++ []) H := by rw [List.append_nil]; exact hP
  have hD : va_D A (wQ cI cZ cO x a t b q ρ ++ []) := by rw [List.append_nil]; exact hD
  refine lv_iload_n hx hb dL_set_0 rfl (lv_at hl 1 rfl) ?_
  refine lv_if_ne (tgt := 13) hx hb dL_set_1 (by decide) (fun _ => ?_) (fun c9 => absurd c9 (by decide +kernel))
  refine lv_iload_n hx hb dL_set_13 rfl (lv_at hl 1 rfl) ?_
  refine lv_iconst (v := nI 1) hx hb dL_set_14 (by decide +kernel) ?_
  refine lv_icmp_ne (tgt := 27) hx hb dL_set_15 (by decide) (fun _ => ?_) (fun c9 => absurd c9 (by decide +kernel))
  refine lv_iload_n hx hb dL_set_27 rfl (lv_at hl 1 rfl) ?_
  refine lv_iconst (v := nI 2) hx hb dL_set_28 (by decide +kernel) ?_
  refine lv_icmp_ne (tgt := 43) hx hb dL_set_29 (by decide) (fun _ => ?_) (fun c9 => absurd c9 (by decide +kernel))
  refine lv_iload_n hx hb dL_set_43 rfl (lv_at hl 1 rfl) ?_
  refine lv_iconst (v := nI 3) hx hb dL_set_44 (by decide +kernel) ?_
  refine lv_icmp_ne (tgt := 56) hx hb dL_set_45 (by decide) (fun c9 => absurd (by decide +kernel) c9) (fun _ => ?_)
  refine lv_aload_n hx hb dL_set_48 rfl (lv_at hl 0 rfl) ?_
  refine lv_iload_n hx hb dL_set_49 rfl (lv_at hl 2 rfl) ?_
  refine kCallP_i (mc := 0) (ms := 0) (T := []) (W1 := fun _ : Unit => wQ cI cZ cO x a t b (qsDelay q d) ρ) (fun _ _ h => h) hP hD hS hA (fun _ => rfl) (va_runV (As := [.int (nI d)]) (rest := []) ⟨hx, hb, hml, hown, hts⟩ (c_X2_setDelay l D cI cZ cO cJ x a t b (qK q) (qHo q) (sT (qσ q)) (sE (qσ q)) (sD (qσ q)) (sF (qσ q)) (sS (qσ q)) (sC (qσ q)) (sL (qσ q)) (sT ρ) (sE ρ) (sD ρ) (sF ρ) (sS ρ) (sC ρ) (sL ρ) (qLo q) (qSe q) (qEf q) (qgp q) (qgi q) (qam q) (qli q) (qdl q) d H.size hd) (cwV (rm := rmX2_setDelay) 1 hts gL_set_X2_setDelay rfl rfl rfl (by decide +kernel) ⟨Nat.le_of_ble_eq_true rfl, Nat.le_of_ble_eq_true rfl⟩) (kPreVW hK hN (pfP hP) (pfD hD) (va_recv hK (pfP hP) (ci := 2) (q0 := 0) rfl rfl)) rfl rfl hl.1 rfl (lv_room (Nat.le_of_ble_eq_true rfl)) dL_set_50 ⟨Nat.zero_le _, Nat.zero_le _⟩) (fun r9 u9 H locs hr9 hP hD hS => ?_)
  subst hr9
  refine lv_goto (tgt := 87) hx hb dL_set_53 (by decide) ?_
  subst hQ9
  subst hA9
  rw [List.append_nil] at hP
  exact kRetH_i ρ hx hb hr hlocks hP hS dL_set_87 rfl

set_option maxHeartbeats 4000000 in
set_option maxRecDepth 100000 in
/-- set: fail -/
theorem c_L_set_fail (l : Launch) (D : va_G) (cI cZ cO cJ : ClassId) (x a t b : Nat → Nat) (q : QS) (ρ : HS) (f : Nat) (b9 c9 : Int32) (sz : Nat) (hf : f < 8) (hF : sF (qσ q) f = 0) : kMH l yL_set wsL_set rmL_set D (kT cI cZ cO cJ) [.ref (x 0), .int (nI 4), .int (nI f), .int b9, .int c9] (wQ cI cZ cO x a t b q ρ) (fun u : HS => wQ cI cZ cO x a t b (qsFail q f) u) 0 0 sz (mCnt (sF (qσ (qsFail q f))) 8) := by
  refine kEnterH (cc := cL_set) (maxL := 6) (ret := some .int) (hh := [(0, 87, 88, 35), (0, 87, 93, 38)]) (by decide +kernel) rfl (Nat.le_of_ble_eq_true rfl) ?_
  intro p e s m below meth c args hx hb hr hml hts hown hlocks htab hK hN A hA9 Q hQ9 hP hD hsz hS hA hX hC ls hl
  have hl : lv_has ls 6 [(0, .ref (x 0)), (1, .int (nI 4)), (2, .int (nI f)), (3, .int b9), (4, .int c9)] := hl
  obtain ⟨H, hH9⟩ : ∃ H, H = s.heap := ⟨_, rfl⟩
  rw [← hH9] at hP ⊢
  have hS : va_S A s.heap H [] := by rw [hH9]; exact va_S.rf
  have hlocs : ∃ locs : List Loc, locs = [] := ⟨_, rfl⟩
  obtain ⟨locs, hlocs⟩ := hlocs
  rw [← hlocs] at hS ⊢
  have hP : va_P D vwCl (wQ cI cZ cO x a t b q ρ ++ []) H := by rw [List.append_nil]; exact hP
  have hD : va_D A (wQ cI cZ cO x a t b q ρ ++ []) := by rw [List.append_nil]; exact hD
  refine lv_iload_n hx hb dL_set_0 rfl (lv_at hl 1 rfl) ?_
  refine lv_if_ne (tgt := 13) hx hb dL_set_1 (by decide) (fun _ => ?_) (fun c9 => absurd c9 (by decide +kernel))
  refine lv_iload_n hx hb dL_set_13 rfl (lv_at hl 1 rfl) ?_
  refine lv_iconst (v := nI 1) hx hb dL_set_14 (by decide +kernel) ?_
  refine lv_icmp_ne (tgt := 27) hx hb dL_set_15 (by decide) (fun _ => ?_) (fun c9 => absurd c9 (by decide +kernel))
  refine lv_iload_n hx hb dL_set_27 rfl (lv_at hl 1 rfl) ?_
  refine lv_iconst (v := nI 2) hx hb dL_set_28 (by decide +kernel) ?_
  refine lv_icmp_ne (tgt := 43) hx hb dL_set_29 (by decide) (fun _ => ?_) (fun c9 => absurd c9 (by decide +kernel))
  refine lv_iload_n hx hb dL_set_43 rfl (lv_at hl 1 rfl) ?_
  refine lv_iconst (v := nI 3) hx hb dL_set_44 (by decide +kernel) ?_
  refine lv_icmp_ne (tgt := 56) hx hb dL_set_45 (by decide) (fun _ => ?_) (fun c9 => absurd c9 (by decide +kernel))
  refine lv_iload_n hx hb dL_set_56 rfl (lv_at hl 1 rfl) ?_
  refine lv_iconst (v := nI 4) hx hb dL_set_57 (by decide +kernel) ?_
  refine lv_icmp_ne (tgt := 69) hx hb dL_set_58 (by decide) (fun c9 => absurd (by decide +kernel) c9) (fun _ => ?_)
  refine lv_aload_n hx hb dL_set_61 rfl (lv_at hl 0 rfl) ?_
  refine lv_iload_n hx hb dL_set_62 rfl (lv_at hl 2 rfl) ?_
  refine kCallP_i (mc := 0) (ms := 0) (T := []) (W1 := fun _ : Unit => wQ cI cZ cO x a t b (qsFail q f) ρ) (fun _ _ h => h) hP hD hS hA (fun _ => rfl) (va_runV (As := [.int (nI f)]) (rest := []) ⟨hx, hb, hml, hown, hts⟩ (c_X2_fail l D cI cZ cO cJ x a t b (qK q) (qHo q) (sT (qσ q)) (sE (qσ q)) (sD (qσ q)) (sF (qσ q)) (sS (qσ q)) (sC (qσ q)) (sL (qσ q)) (sT ρ) (sE ρ) (sD ρ) (sF ρ) (sS ρ) (sC ρ) (sL ρ) (qLo q) (qSe q) (qEf q) (qgp q) (qgi q) (qam q) (qli q) (qdl q) f H.size hf hF) (cwV (rm := rmX2_fail) 1 hts gL_set_X2_fail rfl rfl rfl (by decide +kernel) ⟨Nat.le_of_ble_eq_true rfl, Nat.le_of_ble_eq_true rfl⟩) (kPreVW hK hN (pfP hP) (pfD hD) (va_recv hK (pfP hP) (ci := 2) (q0 := 0) rfl rfl)) rfl rfl hl.1 rfl (lv_room (Nat.le_of_ble_eq_true rfl)) dL_set_63 ⟨Nat.zero_le _, Nat.zero_le _⟩) (fun r9 u9 H locs hr9 hP hD hS => ?_)
  subst hr9
  refine lv_goto (tgt := 87) hx hb dL_set_66 (by decide) ?_
  subst hQ9
  subst hA9
  rw [List.append_nil] at hP
  exact kRetH_i ρ hx hb hr hlocks hP hS dL_set_87 rfl

set_option maxHeartbeats 4000000 in
set_option maxRecDepth 100000 in
/-- set: repair -/
theorem c_L_set_repair (l : Launch) (D : va_G) (cI cZ cO cJ : ClassId) (x a t b : Nat → Nat) (q : QS) (ρ : HS) (f : Nat) (b9 c9 : Int32) (sz : Nat) (hf : f < 8) (hF : ¬ sF (qσ q) f = 0) : kMH l yL_set wsL_set rmL_set D (kT cI cZ cO cJ) [.ref (x 0), .int (nI 5), .int (nI f), .int b9, .int c9] (wQ cI cZ cO x a t b q ρ) (fun u : HS => wQ cI cZ cO x a t b (qsRep q f) u) 0 0 sz (mCnt (sF (qσ (qsRep q f))) 8) := by
  refine kEnterH (cc := cL_set) (maxL := 6) (ret := some .int) (hh := [(0, 87, 88, 35), (0, 87, 93, 38)]) (by decide +kernel) rfl (Nat.le_of_ble_eq_true rfl) ?_
  intro p e s m below meth c args hx hb hr hml hts hown hlocks htab hK hN A hA9 Q hQ9 hP hD hsz hS hA hX hC ls hl
  have hl : lv_has ls 6 [(0, .ref (x 0)), (1, .int (nI 5)), (2, .int (nI f)), (3, .int b9), (4, .int c9)] := hl
  obtain ⟨H, hH9⟩ : ∃ H, H = s.heap := ⟨_, rfl⟩
  rw [← hH9] at hP ⊢
  have hS : va_S A s.heap H [] := by rw [hH9]; exact va_S.rf
  have hlocs : ∃ locs : List Loc, locs = [] := ⟨_, rfl⟩
  obtain ⟨locs, hlocs⟩ := hlocs
  rw [← hlocs] at hS ⊢
  have hP : va_P D vwCl (wQ cI cZ cO x a t b q ρ ++ []) H := by rw [List.append_nil]; exact hP
  have hD : va_D A (wQ cI cZ cO x a t b q ρ ++ []) := by rw [List.append_nil]; exact hD
  refine lv_iload_n hx hb dL_set_0 rfl (lv_at hl 1 rfl) ?_
  refine lv_if_ne (tgt := 13) hx hb dL_set_1 (by decide) (fun _ => ?_) (fun c9 => absurd c9 (by decide +kernel))
  refine lv_iload_n hx hb dL_set_13 rfl (lv_at hl 1 rfl) ?_
  refine lv_iconst (v := nI 1) hx hb dL_set_14 (by decide +kernel) ?_
  refine lv_icmp_ne (tgt := 27) hx hb dL_set_15 (by decide) (fun _ => ?_) (fun c9 => absurd c9 (by decide +kernel))
  refine lv_iload_n hx hb dL_set_27 rfl (lv_at hl 1 rfl) ?_
  refine lv_iconst (v := nI 2) hx hb dL_set_28 (by decide +kernel) ?_
  refine lv_icmp_ne (tgt := 43) hx hb dL_set_29 (by decide) (fun _ => ?_) (fun c9 => absurd c9 (by decide +kernel))
  refine lv_iload_n hx hb dL_set_43 rfl (lv_at hl 1 rfl) ?_
  refine lv_iconst (v := nI 3) hx hb dL_set_44 (by decide +kernel) ?_
  refine lv_icmp_ne (tgt := 56) hx hb dL_set_45 (by decide) (fun _ => ?_) (fun c9 => absurd c9 (by decide +kernel))
  refine lv_iload_n hx hb dL_set_56 rfl (lv_at hl 1 rfl) ?_
  refine lv_iconst (v := nI 4) hx hb dL_set_57 (by decide +kernel) ?_
  refine lv_icmp_ne (tgt := 69) hx hb dL_set_58 (by decide) (fun _ => ?_) (fun c9 => absurd c9 (by decide +kernel))
  refine lv_iload_n hx hb dL_set_69 rfl (lv_at hl 1 rfl) ?_
  refine lv_iconst (v := nI 5) hx hb dL_set_70 (by decide +kernel) ?_
  refine lv_icmp_ne (tgt := 82) hx hb dL_set_71 (by decide) (fun c9 => absurd (by decide +kernel) c9) (fun _ => ?_)
  refine lv_aload_n hx hb dL_set_74 rfl (lv_at hl 0 rfl) ?_
  refine lv_iload_n hx hb dL_set_75 rfl (lv_at hl 2 rfl) ?_
  refine kCallP_i (mc := 0) (ms := 0) (T := []) (W1 := fun _ : Unit => wQ cI cZ cO x a t b (qsRep q f) ρ) (fun _ _ h => h) hP hD hS hA (fun _ => rfl) (va_runV (As := [.int (nI f)]) (rest := []) ⟨hx, hb, hml, hown, hts⟩ (c_X2_repair l D cI cZ cO cJ x a t b (qK q) (qHo q) (sT (qσ q)) (sE (qσ q)) (sD (qσ q)) (sF (qσ q)) (sS (qσ q)) (sC (qσ q)) (sL (qσ q)) (sT ρ) (sE ρ) (sD ρ) (sF ρ) (sS ρ) (sC ρ) (sL ρ) (qLo q) (qSe q) (qEf q) (qgp q) (qgi q) (qam q) (qli q) (qdl q) f H.size hf hF) (cwV (rm := rmX2_repair) 1 hts gL_set_X2_repair rfl rfl rfl (by decide +kernel) ⟨Nat.le_of_ble_eq_true rfl, Nat.le_of_ble_eq_true rfl⟩) (kPreVW hK hN (pfP hP) (pfD hD) (va_recv hK (pfP hP) (ci := 2) (q0 := 0) rfl rfl)) rfl rfl hl.1 rfl (lv_room (Nat.le_of_ble_eq_true rfl)) dL_set_76 ⟨Nat.zero_le _, Nat.zero_le _⟩) (fun r9 u9 H locs hr9 hP hD hS => ?_)
  subst hr9
  refine lv_goto (tgt := 87) hx hb dL_set_79 (by decide) ?_
  subst hQ9
  subst hA9
  rw [List.append_nil] at hP
  exact kRetH_i ρ hx hb hr hlocks hP hS dL_set_87 rfl

set_option maxHeartbeats 4000000 in
set_option maxRecDepth 100000 in
/-- set: pass -/
theorem c_L_set_pass (l : Launch) (D : va_G) (cI cZ cO cJ : ClassId) (x a t b : Nat → Nat) (q : QS) (ρ : HS) (nm : Nat) (b9 c9 : Int32) (sz : Nat) (h1 : 0 < nm) (h2 : nm ≤ 300) (hQ : QOK q) (h10 : qK q + nm ≤ 100000) : kMH l yL_set wsL_set rmL_set D (kT cI cZ cO cJ) [.ref (x 0), .int (nI 6), .int (nI nm), .int b9, .int c9] (wQ cI cZ cO x a t b q ρ) (fun u : HS => wQ cI cZ cO x a t b (qPass q nm) u) 0 0 sz (pSum (qli q) (fun k => sT (qRn q k (qσ q))) nm) := by
  refine kEnterH (cc := cL_set) (maxL := 6) (ret := some .int) (hh := [(0, 87, 88, 35), (0, 87, 93, 38)]) (by decide +kernel) rfl (Nat.le_of_ble_eq_true rfl) ?_
  intro p e s m below meth c args hx hb hr hml hts hown hlocks htab hK hN A hA9 Q hQ9 hP hD hsz hS hA hX hC ls hl
  have hl : lv_has ls 6 [(0, .ref (x 0)), (1, .int (nI 6)), (2, .int (nI nm)), (3, .int b9), (4, .int c9)] := hl
  obtain ⟨H, hH9⟩ : ∃ H, H = s.heap := ⟨_, rfl⟩
  rw [← hH9] at hP ⊢
  have hS : va_S A s.heap H [] := by rw [hH9]; exact va_S.rf
  have hlocs : ∃ locs : List Loc, locs = [] := ⟨_, rfl⟩
  obtain ⟨locs, hlocs⟩ := hlocs
  rw [← hlocs] at hS ⊢
  have hP : va_P D vwCl (wQ cI cZ cO x a t b q ρ ++ []) H := by rw [List.append_nil]; exact hP
  have hD : va_D A (wQ cI cZ cO x a t b q ρ ++ []) := by rw [List.append_nil]; exact hD
  refine lv_iload_n hx hb dL_set_0 rfl (lv_at hl 1 rfl) ?_
  refine lv_if_ne (tgt := 13) hx hb dL_set_1 (by decide) (fun _ => ?_) (fun c9 => absurd c9 (by decide +kernel))
  refine lv_iload_n hx hb dL_set_13 rfl (lv_at hl 1 rfl) ?_
  refine lv_iconst (v := nI 1) hx hb dL_set_14 (by decide +kernel) ?_
  refine lv_icmp_ne (tgt := 27) hx hb dL_set_15 (by decide) (fun _ => ?_) (fun c9 => absurd c9 (by decide +kernel))
  refine lv_iload_n hx hb dL_set_27 rfl (lv_at hl 1 rfl) ?_
  refine lv_iconst (v := nI 2) hx hb dL_set_28 (by decide +kernel) ?_
  refine lv_icmp_ne (tgt := 43) hx hb dL_set_29 (by decide) (fun _ => ?_) (fun c9 => absurd c9 (by decide +kernel))
  refine lv_iload_n hx hb dL_set_43 rfl (lv_at hl 1 rfl) ?_
  refine lv_iconst (v := nI 3) hx hb dL_set_44 (by decide +kernel) ?_
  refine lv_icmp_ne (tgt := 56) hx hb dL_set_45 (by decide) (fun _ => ?_) (fun c9 => absurd c9 (by decide +kernel))
  refine lv_iload_n hx hb dL_set_56 rfl (lv_at hl 1 rfl) ?_
  refine lv_iconst (v := nI 4) hx hb dL_set_57 (by decide +kernel) ?_
  refine lv_icmp_ne (tgt := 69) hx hb dL_set_58 (by decide) (fun _ => ?_) (fun c9 => absurd c9 (by decide +kernel))
  refine lv_iload_n hx hb dL_set_69 rfl (lv_at hl 1 rfl) ?_
  refine lv_iconst (v := nI 5) hx hb dL_set_70 (by decide +kernel) ?_
  refine lv_icmp_ne (tgt := 82) hx hb dL_set_71 (by decide) (fun _ => ?_) (fun c9 => absurd c9 (by decide +kernel))
  refine lv_aload_n hx hb dL_set_82 rfl (lv_at hl 0 rfl) ?_
  refine lv_iload_n hx hb dL_set_83 rfl (lv_at hl 2 rfl) ?_
  refine kCallP_i (mc := 0) (ms := 0) (T := []) (W1 := fun _ : Unit => wQ cI cZ cO x a t b (qPass q nm) ρ) (fun _ _ h => h) hP hD hS hA (fun _ => rfl) (va_runV (As := [.int (nI nm)]) (rest := []) ⟨hx, hb, hml, hown, hts⟩ (c_X2_pass l D cI cZ cO cJ x a t b (qK q) (qHo q) (qσ q) (sT ρ) (sE ρ) (sD ρ) (sF ρ) (sS ρ) (sC ρ) (sL ρ) (qLo q) (qSe q) (qEf q) (qgp q) (qgi q) (qam q) (qli q) (qdl q) nm H.size h1 h2 hQ.la hQ.dl h10) (cwV (rm := rmX2_pass) 1 hts gL_set_X2_pass rfl rfl rfl (by decide +kernel) ⟨Nat.le_of_ble_eq_true rfl, Nat.le_of_ble_eq_true rfl⟩) (kPreVW hK hN (pfP hP) (pfD hD) (va_recv hK (pfP hP) (ci := 2) (q0 := 0) rfl rfl)) rfl rfl hl.1 rfl (lv_room (Nat.le_of_ble_eq_true rfl)) dL_set_84 ⟨Nat.zero_le _, Nat.zero_le _⟩) (fun r9 u9 H locs hr9 hP hD hS => ?_)
  subst hr9
  subst hQ9
  subst hA9
  rw [List.append_nil] at hP
  exact kRetH_i ρ hx hb hr hlocks hP hS dL_set_87 rfl

abbrev rxL_set : Room := { frames := 9, cells := 1, slots := 6, locals := 156 }
set_option maxHeartbeats 4000000 in
set_option maxRecDepth 100000 in
/-- set: setLoad_bad -/
theorem c_L_set_setLoad_bad (l : Launch) (hst : l.stackTraces = false) (D : va_G) (cI cZ cO cJ : ClassId) (x a t b : Nat → Nat) (q : QS) (ρ : HS) (v w c9 : Int32) (sz : Nat) (h : ¬ (inR v (nI 0) (nI 5) ∧ inR w (nI 0) (nI 200))) : kMH l yL_set wsL_set rxL_set D (kT cI cZ cO cJ) [.ref (x 0), .int (nI 0), .int v, .int w, .int c9] (wQ cI cZ cO x a t b q ρ) (fun u : HS => wQ cI cZ cO x a t b q u) 1 6 sz ((-9000001)) := by
  refine kEnterH (cc := cL_set) (maxL := 6) (ret := some .int) (hh := [(0, 87, 88, 35), (0, 87, 93, 38)]) (by decide +kernel) rfl (Nat.le_of_ble_eq_true rfl) ?_
  intro p e s m below meth c args hx hb hr hml hts hown hlocks htab hK hN A hA9 Q hQ9 hP hD hsz hS hA hX hC ls hl
  have hl : lv_has ls 6 [(0, .ref (x 0)), (1, .int (nI 0)), (2, .int v), (3, .int w), (4, .int c9)] := hl
  obtain ⟨H, hH9⟩ : ∃ H, H = s.heap := ⟨_, rfl⟩
  rw [← hH9] at hP ⊢
  have hS : va_S A s.heap H [] := by rw [hH9]; exact va_S.rf
  have hlocs : ∃ locs : List Loc, locs = [] := ⟨_, rfl⟩
  obtain ⟨locs, hlocs⟩ := hlocs
  rw [← hlocs] at hS ⊢
  have hP : va_P D vwCl (wQ cI cZ cO x a t b q ρ ++ []) H := by rw [List.append_nil]; exact hP
  have hD : va_D A (wQ cI cZ cO x a t b q ρ ++ []) := by rw [List.append_nil]; exact hD
  refine lv_iload_n hx hb dL_set_0 rfl (lv_at hl 1 rfl) ?_
  refine lv_if_ne (tgt := 13) hx hb dL_set_1 (by decide) (fun c9 => absurd (by decide +kernel) c9) (fun _ => ?_)
  refine lv_aload_n hx hb dL_set_4 rfl (lv_at hl 0 rfl) ?_
  refine lv_iload_n hx hb dL_set_5 rfl (lv_at hl 2 rfl) ?_
  refine lv_iload_n hx hb dL_set_6 rfl (lv_at hl 3 rfl) ?_
  refine kCallXP_i (T := []) hP hD hS hA (vx_runV (As := [.int v, .int w]) (rest := []) ⟨hx, hb, hml, hown, hts⟩ (c_X2_setLoad_bad l hst D cI cZ cO cJ x a t b (qK q) (qHo q) (sT (qσ q)) (sE (qσ q)) (sD (qσ q)) (sF (qσ q)) (sS (qσ q)) (sC (qσ q)) (sL (qσ q)) (sT ρ) (sE ρ) (sD ρ) (sF ρ) (sS ρ) (sC ρ) (sL ρ) (qLo q) (qSe q) (qEf q) (qgp q) (qgi q) (qam q) (qli q) (qdl q) v w H.size h) (cwV (rm := rxX2_setLoad) 2 hts gL_set_X2_setLoad rfl rfl rfl (by decide +kernel) ⟨Nat.le_of_ble_eq_true rfl, Nat.le_of_ble_eq_true rfl⟩) (kPreVXW hK hN hX (pfP hP) (pfD hD) hS (kfree (pfD hD) hS hA) (va_recv hK (pfP hP) (ci := 2) (q0 := 0) rfl rfl)) rfl rfl hl.1 rfl (lv_room (Nat.le_of_ble_eq_true rfl)) dL_set_7 ⟨Nat.le_of_ble_eq_true rfl, Nat.le_of_ble_eq_true rfl⟩) (fun ce q9 H locs hP hD hS hce hcv hcl => ?_)
  refine vx_catch (name := "java/lang/IllegalArgumentException") hown [] ⟨0, 87, 88, 35⟩ [⟨0, 87, 93, 38⟩] (by rw [htab]; rfl) (fun z h => absurd h (List.not_mem_nil)) rfl (by decide) (hts (.classLink RL 35 "java/lang/IllegalArgumentException") (by decide +kernel)) (kXw.use xB_iae_ok hX.2.2.2.2.2.2.1 _ (by decide +kernel)) hce hcv hcl ?_
  refine lv_astore (lv' := [(5, .ref q9), (0, .ref (x 0)), (1, .int (nI 0)), (2, .int v), (3, .int w), (4, .int c9)]) hx hb dL_set_88 hl (by decide) rfl (fun ls hl => ?_)
  refine lv_ldc hx hb hown (hts (.constant RL 37 (-9000001)) (by decide +kernel)) dL_set_90 ?_
  subst hQ9
  subst hA9
  rw [List.append_nil] at hP
  exact kRetH_i ρ hx hb hr hlocks hP hS dL_set_92 rfl

set_option maxHeartbeats 4000000 in
set_option maxRecDepth 100000 in
/-- set: setSetpoint_bad -/
theorem c_L_set_setSetpoint_bad (l : Launch) (hst : l.stackTraces = false) (D : va_G) (cI cZ cO cJ : ClassId) (x a t b : Nat → Nat) (q : QS) (ρ : HS) (v w c9 : Int32) (sz : Nat) (h : ¬ (inR v (nI 0) (nI 5) ∧ inR w (nI 1500) (nI 3500))) : kMH l yL_set wsL_set rxL_set D (kT cI cZ cO cJ) [.ref (x 0), .int (nI 1), .int v, .int w, .int c9] (wQ cI cZ cO x a t b q ρ) (fun u : HS => wQ cI cZ cO x a t b q u) 1 6 sz ((-9000001)) := by
  refine kEnterH (cc := cL_set) (maxL := 6) (ret := some .int) (hh := [(0, 87, 88, 35), (0, 87, 93, 38)]) (by decide +kernel) rfl (Nat.le_of_ble_eq_true rfl) ?_
  intro p e s m below meth c args hx hb hr hml hts hown hlocks htab hK hN A hA9 Q hQ9 hP hD hsz hS hA hX hC ls hl
  have hl : lv_has ls 6 [(0, .ref (x 0)), (1, .int (nI 1)), (2, .int v), (3, .int w), (4, .int c9)] := hl
  obtain ⟨H, hH9⟩ : ∃ H, H = s.heap := ⟨_, rfl⟩
  rw [← hH9] at hP ⊢
  have hS : va_S A s.heap H [] := by rw [hH9]; exact va_S.rf
  have hlocs : ∃ locs : List Loc, locs = [] := ⟨_, rfl⟩
  obtain ⟨locs, hlocs⟩ := hlocs
  rw [← hlocs] at hS ⊢
  have hP : va_P D vwCl (wQ cI cZ cO x a t b q ρ ++ []) H := by rw [List.append_nil]; exact hP
  have hD : va_D A (wQ cI cZ cO x a t b q ρ ++ []) := by rw [List.append_nil]; exact hD
  refine lv_iload_n hx hb dL_set_0 rfl (lv_at hl 1 rfl) ?_
  refine lv_if_ne (tgt := 13) hx hb dL_set_1 (by decide) (fun _ => ?_) (fun c9 => absurd c9 (by decide +kernel))
  refine lv_iload_n hx hb dL_set_13 rfl (lv_at hl 1 rfl) ?_
  refine lv_iconst (v := nI 1) hx hb dL_set_14 (by decide +kernel) ?_
  refine lv_icmp_ne (tgt := 27) hx hb dL_set_15 (by decide) (fun c9 => absurd (by decide +kernel) c9) (fun _ => ?_)
  refine lv_aload_n hx hb dL_set_18 rfl (lv_at hl 0 rfl) ?_
  refine lv_iload_n hx hb dL_set_19 rfl (lv_at hl 2 rfl) ?_
  refine lv_iload_n hx hb dL_set_20 rfl (lv_at hl 3 rfl) ?_
  refine kCallXP_i (T := []) hP hD hS hA (vx_runV (As := [.int v, .int w]) (rest := []) ⟨hx, hb, hml, hown, hts⟩ (c_X2_setSetpoint_bad l hst D cI cZ cO cJ x a t b (qK q) (qHo q) (sT (qσ q)) (sE (qσ q)) (sD (qσ q)) (sF (qσ q)) (sS (qσ q)) (sC (qσ q)) (sL (qσ q)) (sT ρ) (sE ρ) (sD ρ) (sF ρ) (sS ρ) (sC ρ) (sL ρ) (qLo q) (qSe q) (qEf q) (qgp q) (qgi q) (qam q) (qli q) (qdl q) v w H.size h) (cwV (rm := rxX2_setSetpoint) 2 hts gL_set_X2_setSetpoint rfl rfl rfl (by decide +kernel) ⟨Nat.le_of_ble_eq_true rfl, Nat.le_of_ble_eq_true rfl⟩) (kPreVXW hK hN hX (pfP hP) (pfD hD) hS (kfree (pfD hD) hS hA) (va_recv hK (pfP hP) (ci := 2) (q0 := 0) rfl rfl)) rfl rfl hl.1 rfl (lv_room (Nat.le_of_ble_eq_true rfl)) dL_set_21 ⟨Nat.le_of_ble_eq_true rfl, Nat.le_of_ble_eq_true rfl⟩) (fun ce q9 H locs hP hD hS hce hcv hcl => ?_)
  refine vx_catch (name := "java/lang/IllegalArgumentException") hown [] ⟨0, 87, 88, 35⟩ [⟨0, 87, 93, 38⟩] (by rw [htab]; rfl) (fun z h => absurd h (List.not_mem_nil)) rfl (by decide) (hts (.classLink RL 35 "java/lang/IllegalArgumentException") (by decide +kernel)) (kXw.use xB_iae_ok hX.2.2.2.2.2.2.1 _ (by decide +kernel)) hce hcv hcl ?_
  refine lv_astore (lv' := [(5, .ref q9), (0, .ref (x 0)), (1, .int (nI 1)), (2, .int v), (3, .int w), (4, .int c9)]) hx hb dL_set_88 hl (by decide) rfl (fun ls hl => ?_)
  refine lv_ldc hx hb hown (hts (.constant RL 37 (-9000001)) (by decide +kernel)) dL_set_90 ?_
  subst hQ9
  subst hA9
  rw [List.append_nil] at hP
  exact kRetH_i ρ hx hb hr hlocks hP hS dL_set_92 rfl

set_option maxHeartbeats 4000000 in
set_option maxRecDepth 100000 in
/-- set: setEffect_bad -/
theorem c_L_set_setEffect_bad (l : Launch) (hst : l.stackTraces = false) (D : va_G) (cI cZ cO cJ : ClassId) (x a t b : Nat → Nat) (q : QS) (ρ : HS) (u9 v w : Int32) (sz : Nat) (h : ¬ (inR u9 (nI 0) (nI 7) ∧ inR v (nI 0) (nI 5) ∧ inR w (nI 0) (nI 100))) : kMH l yL_set wsL_set rxL_set D (kT cI cZ cO cJ) [.ref (x 0), .int (nI 2), .int u9, .int v, .int w] (wQ cI cZ cO x a t b q ρ) (fun u : HS => wQ cI cZ cO x a t b q u) 1 6 sz ((-9000001)) := by
  refine kEnterH (cc := cL_set) (maxL := 6) (ret := some .int) (hh := [(0, 87, 88, 35), (0, 87, 93, 38)]) (by decide +kernel) rfl (Nat.le_of_ble_eq_true rfl) ?_
  intro p e s m below meth c args hx hb hr hml hts hown hlocks htab hK hN A hA9 Q hQ9 hP hD hsz hS hA hX hC ls hl
  have hl : lv_has ls 6 [(0, .ref (x 0)), (1, .int (nI 2)), (2, .int u9), (3, .int v), (4, .int w)] := hl
  obtain ⟨H, hH9⟩ : ∃ H, H = s.heap := ⟨_, rfl⟩
  rw [← hH9] at hP ⊢
  have hS : va_S A s.heap H [] := by rw [hH9]; exact va_S.rf
  have hlocs : ∃ locs : List Loc, locs = [] := ⟨_, rfl⟩
  obtain ⟨locs, hlocs⟩ := hlocs
  rw [← hlocs] at hS ⊢
  have hP : va_P D vwCl (wQ cI cZ cO x a t b q ρ ++ []) H := by rw [List.append_nil]; exact hP
  have hD : va_D A (wQ cI cZ cO x a t b q ρ ++ []) := by rw [List.append_nil]; exact hD
  refine lv_iload_n hx hb dL_set_0 rfl (lv_at hl 1 rfl) ?_
  refine lv_if_ne (tgt := 13) hx hb dL_set_1 (by decide) (fun _ => ?_) (fun c9 => absurd c9 (by decide +kernel))
  refine lv_iload_n hx hb dL_set_13 rfl (lv_at hl 1 rfl) ?_
  refine lv_iconst (v := nI 1) hx hb dL_set_14 (by decide +kernel) ?_
  refine lv_icmp_ne (tgt := 27) hx hb dL_set_15 (by decide) (fun _ => ?_) (fun c9 => absurd c9 (by decide +kernel))
  refine lv_iload_n hx hb dL_set_27 rfl (lv_at hl 1 rfl) ?_
  refine lv_iconst (v := nI 2) hx hb dL_set_28 (by decide +kernel) ?_
  refine lv_icmp_ne (tgt := 43) hx hb dL_set_29 (by decide) (fun c9 => absurd (by decide +kernel) c9) (fun _ => ?_)
  refine lv_aload_n hx hb dL_set_32 rfl (lv_at hl 0 rfl) ?_
  refine lv_iload_n hx hb dL_set_33 rfl (lv_at hl 2 rfl) ?_
  refine lv_iload_n hx hb dL_set_34 rfl (lv_at hl 3 rfl) ?_
  refine lv_iload hx hb dL_set_35 (lv_at hl 4 rfl) ?_
  refine kCallXP_i (T := []) hP hD hS hA (vx_runV (As := [.int u9, .int v, .int w]) (rest := []) ⟨hx, hb, hml, hown, hts⟩ (c_X2_setEffect_bad l hst D cI cZ cO cJ x a t b (qK q) (qHo q) (sT (qσ q)) (sE (qσ q)) (sD (qσ q)) (sF (qσ q)) (sS (qσ q)) (sC (qσ q)) (sL (qσ q)) (sT ρ) (sE ρ) (sD ρ) (sF ρ) (sS ρ) (sC ρ) (sL ρ) (qLo q) (qSe q) (qEf q) (qgp q) (qgi q) (qam q) (qli q) (qdl q) u9 v w H.size h) (cwV (rm := rxX2_setEffect) 3 hts gL_set_X2_setEffect rfl rfl rfl (by decide +kernel) ⟨Nat.le_of_ble_eq_true rfl, Nat.le_of_ble_eq_true rfl⟩) (kPreVXW hK hN hX (pfP hP) (pfD hD) hS (kfree (pfD hD) hS hA) (va_recv hK (pfP hP) (ci := 2) (q0 := 0) rfl rfl)) rfl rfl hl.1 rfl (lv_room (Nat.le_of_ble_eq_true rfl)) dL_set_37 ⟨Nat.le_of_ble_eq_true rfl, Nat.le_of_ble_eq_true rfl⟩) (fun ce q9 H locs hP hD hS hce hcv hcl => ?_)
  refine vx_catch (name := "java/lang/IllegalArgumentException") hown [] ⟨0, 87, 88, 35⟩ [⟨0, 87, 93, 38⟩] (by rw [htab]; rfl) (fun z h => absurd h (List.not_mem_nil)) rfl (by decide) (hts (.classLink RL 35 "java/lang/IllegalArgumentException") (by decide +kernel)) (kXw.use xB_iae_ok hX.2.2.2.2.2.2.1 _ (by decide +kernel)) hce hcv hcl ?_
  refine lv_astore (lv' := [(5, .ref q9), (0, .ref (x 0)), (1, .int (nI 2)), (2, .int u9), (3, .int v), (4, .int w)]) hx hb dL_set_88 hl (by decide) rfl (fun ls hl => ?_)
  refine lv_ldc hx hb hown (hts (.constant RL 37 (-9000001)) (by decide +kernel)) dL_set_90 ?_
  subst hQ9
  subst hA9
  rw [List.append_nil] at hP
  exact kRetH_i ρ hx hb hr hlocks hP hS dL_set_92 rfl

set_option maxHeartbeats 4000000 in
set_option maxRecDepth 100000 in
/-- set: setDelay_bad -/
theorem c_L_set_setDelay_bad (l : Launch) (hst : l.stackTraces = false) (D : va_G) (cI cZ cO cJ : ClassId) (x a t b : Nat → Nat) (q : QS) (ρ : HS) (v b9 c9 : Int32) (sz : Nat) (h : ¬ inR v (nI 0) (nI 8)) : kMH l yL_set wsL_set rxL_set D (kT cI cZ cO cJ) [.ref (x 0), .int (nI 3), .int v, .int b9, .int c9] (wQ cI cZ cO x a t b q ρ) (fun u : HS => wQ cI cZ cO x a t b q u) 1 6 sz ((-9000001)) := by
  refine kEnterH (cc := cL_set) (maxL := 6) (ret := some .int) (hh := [(0, 87, 88, 35), (0, 87, 93, 38)]) (by decide +kernel) rfl (Nat.le_of_ble_eq_true rfl) ?_
  intro p e s m below meth c args hx hb hr hml hts hown hlocks htab hK hN A hA9 Q hQ9 hP hD hsz hS hA hX hC ls hl
  have hl : lv_has ls 6 [(0, .ref (x 0)), (1, .int (nI 3)), (2, .int v), (3, .int b9), (4, .int c9)] := hl
  obtain ⟨H, hH9⟩ : ∃ H, H = s.heap := ⟨_, rfl⟩
  rw [← hH9] at hP ⊢
  have hS : va_S A s.heap H [] := by rw [hH9]; exact va_S.rf
  have hlocs : ∃ locs : List Loc, locs = [] := ⟨_, rfl⟩
  obtain ⟨locs, hlocs⟩ := hlocs
  rw [← hlocs] at hS ⊢
  have hP : va_P D vwCl (wQ cI cZ cO x a t b q ρ ++ []) H := by rw [List.append_nil]; exact hP
  have hD : va_D A (wQ cI cZ cO x a t b q ρ ++ []) := by rw [List.append_nil]; exact hD
  refine lv_iload_n hx hb dL_set_0 rfl (lv_at hl 1 rfl) ?_
  refine lv_if_ne (tgt := 13) hx hb dL_set_1 (by decide) (fun _ => ?_) (fun c9 => absurd c9 (by decide +kernel))
  refine lv_iload_n hx hb dL_set_13 rfl (lv_at hl 1 rfl) ?_
  refine lv_iconst (v := nI 1) hx hb dL_set_14 (by decide +kernel) ?_
  refine lv_icmp_ne (tgt := 27) hx hb dL_set_15 (by decide) (fun _ => ?_) (fun c9 => absurd c9 (by decide +kernel))
  refine lv_iload_n hx hb dL_set_27 rfl (lv_at hl 1 rfl) ?_
  refine lv_iconst (v := nI 2) hx hb dL_set_28 (by decide +kernel) ?_
  refine lv_icmp_ne (tgt := 43) hx hb dL_set_29 (by decide) (fun _ => ?_) (fun c9 => absurd c9 (by decide +kernel))
  refine lv_iload_n hx hb dL_set_43 rfl (lv_at hl 1 rfl) ?_
  refine lv_iconst (v := nI 3) hx hb dL_set_44 (by decide +kernel) ?_
  refine lv_icmp_ne (tgt := 56) hx hb dL_set_45 (by decide) (fun c9 => absurd (by decide +kernel) c9) (fun _ => ?_)
  refine lv_aload_n hx hb dL_set_48 rfl (lv_at hl 0 rfl) ?_
  refine lv_iload_n hx hb dL_set_49 rfl (lv_at hl 2 rfl) ?_
  refine kCallXP_i (T := []) hP hD hS hA (vx_runV (As := [.int v]) (rest := []) ⟨hx, hb, hml, hown, hts⟩ (c_X2_setDelay_bad l hst D cI cZ cO cJ x a t b (qK q) (qHo q) (sT (qσ q)) (sE (qσ q)) (sD (qσ q)) (sF (qσ q)) (sS (qσ q)) (sC (qσ q)) (sL (qσ q)) (sT ρ) (sE ρ) (sD ρ) (sF ρ) (sS ρ) (sC ρ) (sL ρ) (qLo q) (qSe q) (qEf q) (qgp q) (qgi q) (qam q) (qli q) (qdl q) v H.size h) (cwV (rm := rxX2_setDelay) 1 hts gL_set_X2_setDelay rfl rfl rfl (by decide +kernel) ⟨Nat.le_of_ble_eq_true rfl, Nat.le_of_ble_eq_true rfl⟩) (kPreVXW hK hN hX (pfP hP) (pfD hD) hS (kfree (pfD hD) hS hA) (va_recv hK (pfP hP) (ci := 2) (q0 := 0) rfl rfl)) rfl rfl hl.1 rfl (lv_room (Nat.le_of_ble_eq_true rfl)) dL_set_50 ⟨Nat.le_of_ble_eq_true rfl, Nat.le_of_ble_eq_true rfl⟩) (fun ce q9 H locs hP hD hS hce hcv hcl => ?_)
  refine vx_catch (name := "java/lang/IllegalArgumentException") hown [] ⟨0, 87, 88, 35⟩ [⟨0, 87, 93, 38⟩] (by rw [htab]; rfl) (fun z h => absurd h (List.not_mem_nil)) rfl (by decide) (hts (.classLink RL 35 "java/lang/IllegalArgumentException") (by decide +kernel)) (kXw.use xB_iae_ok hX.2.2.2.2.2.2.1 _ (by decide +kernel)) hce hcv hcl ?_
  refine lv_astore (lv' := [(5, .ref q9), (0, .ref (x 0)), (1, .int (nI 3)), (2, .int v), (3, .int b9), (4, .int c9)]) hx hb dL_set_88 hl (by decide) rfl (fun ls hl => ?_)
  refine lv_ldc hx hb hown (hts (.constant RL 37 (-9000001)) (by decide +kernel)) dL_set_90 ?_
  subst hQ9
  subst hA9
  rw [List.append_nil] at hP
  exact kRetH_i ρ hx hb hr hlocks hP hS dL_set_92 rfl

set_option maxHeartbeats 4000000 in
set_option maxRecDepth 100000 in
/-- set: fail_bad -/
theorem c_L_set_fail_bad (l : Launch) (hst : l.stackTraces = false) (D : va_G) (cI cZ cO cJ : ClassId) (x a t b : Nat → Nat) (q : QS) (ρ : HS) (v b9 c9 : Int32) (sz : Nat) (h : ¬ inR v (nI 0) (nI 7)) : kMH l yL_set wsL_set rxL_set D (kT cI cZ cO cJ) [.ref (x 0), .int (nI 4), .int v, .int b9, .int c9] (wQ cI cZ cO x a t b q ρ) (fun u : HS => wQ cI cZ cO x a t b q u) 1 6 sz ((-9000001)) := by
  refine kEnterH (cc := cL_set) (maxL := 6) (ret := some .int) (hh := [(0, 87, 88, 35), (0, 87, 93, 38)]) (by decide +kernel) rfl (Nat.le_of_ble_eq_true rfl) ?_
  intro p e s m below meth c args hx hb hr hml hts hown hlocks htab hK hN A hA9 Q hQ9 hP hD hsz hS hA hX hC ls hl
  have hl : lv_has ls 6 [(0, .ref (x 0)), (1, .int (nI 4)), (2, .int v), (3, .int b9), (4, .int c9)] := hl
  obtain ⟨H, hH9⟩ : ∃ H, H = s.heap := ⟨_, rfl⟩
  rw [← hH9] at hP ⊢
  have hS : va_S A s.heap H [] := by rw [hH9]; exact va_S.rf
  have hlocs : ∃ locs : List Loc, locs = [] := ⟨_, rfl⟩
  obtain ⟨locs, hlocs⟩ := hlocs
  rw [← hlocs] at hS ⊢
  have hP : va_P D vwCl (wQ cI cZ cO x a t b q ρ ++ []) H := by rw [List.append_nil]; exact hP
  have hD : va_D A (wQ cI cZ cO x a t b q ρ ++ []) := by rw [List.append_nil]; exact hD
  refine lv_iload_n hx hb dL_set_0 rfl (lv_at hl 1 rfl) ?_
  refine lv_if_ne (tgt := 13) hx hb dL_set_1 (by decide) (fun _ => ?_) (fun c9 => absurd c9 (by decide +kernel))
  refine lv_iload_n hx hb dL_set_13 rfl (lv_at hl 1 rfl) ?_
  refine lv_iconst (v := nI 1) hx hb dL_set_14 (by decide +kernel) ?_
  refine lv_icmp_ne (tgt := 27) hx hb dL_set_15 (by decide) (fun _ => ?_) (fun c9 => absurd c9 (by decide +kernel))
  refine lv_iload_n hx hb dL_set_27 rfl (lv_at hl 1 rfl) ?_
  refine lv_iconst (v := nI 2) hx hb dL_set_28 (by decide +kernel) ?_
  refine lv_icmp_ne (tgt := 43) hx hb dL_set_29 (by decide) (fun _ => ?_) (fun c9 => absurd c9 (by decide +kernel))
  refine lv_iload_n hx hb dL_set_43 rfl (lv_at hl 1 rfl) ?_
  refine lv_iconst (v := nI 3) hx hb dL_set_44 (by decide +kernel) ?_
  refine lv_icmp_ne (tgt := 56) hx hb dL_set_45 (by decide) (fun _ => ?_) (fun c9 => absurd c9 (by decide +kernel))
  refine lv_iload_n hx hb dL_set_56 rfl (lv_at hl 1 rfl) ?_
  refine lv_iconst (v := nI 4) hx hb dL_set_57 (by decide +kernel) ?_
  refine lv_icmp_ne (tgt := 69) hx hb dL_set_58 (by decide) (fun c9 => absurd (by decide +kernel) c9) (fun _ => ?_)
  refine lv_aload_n hx hb dL_set_61 rfl (lv_at hl 0 rfl) ?_
  refine lv_iload_n hx hb dL_set_62 rfl (lv_at hl 2 rfl) ?_
  refine kCallXP_i (T := []) hP hD hS hA (vx_runV (As := [.int v]) (rest := []) ⟨hx, hb, hml, hown, hts⟩ (c_X2_fail_bad l hst D cI cZ cO cJ x a t b (qK q) (qHo q) (sT (qσ q)) (sE (qσ q)) (sD (qσ q)) (sF (qσ q)) (sS (qσ q)) (sC (qσ q)) (sL (qσ q)) (sT ρ) (sE ρ) (sD ρ) (sF ρ) (sS ρ) (sC ρ) (sL ρ) (qLo q) (qSe q) (qEf q) (qgp q) (qgi q) (qam q) (qli q) (qdl q) v H.size h) (cwV (rm := rxX2_fail) 1 hts gL_set_X2_fail rfl rfl rfl (by decide +kernel) ⟨Nat.le_of_ble_eq_true rfl, Nat.le_of_ble_eq_true rfl⟩) (kPreVXW hK hN hX (pfP hP) (pfD hD) hS (kfree (pfD hD) hS hA) (va_recv hK (pfP hP) (ci := 2) (q0 := 0) rfl rfl)) rfl rfl hl.1 rfl (lv_room (Nat.le_of_ble_eq_true rfl)) dL_set_63 ⟨Nat.le_of_ble_eq_true rfl, Nat.le_of_ble_eq_true rfl⟩) (fun ce q9 H locs hP hD hS hce hcv hcl => ?_)
  refine vx_catch (name := "java/lang/IllegalArgumentException") hown [] ⟨0, 87, 88, 35⟩ [⟨0, 87, 93, 38⟩] (by rw [htab]; rfl) (fun z h => absurd h (List.not_mem_nil)) rfl (by decide) (hts (.classLink RL 35 "java/lang/IllegalArgumentException") (by decide +kernel)) (kXw.use xB_iae_ok hX.2.2.2.2.2.2.1 _ (by decide +kernel)) hce hcv hcl ?_
  refine lv_astore (lv' := [(5, .ref q9), (0, .ref (x 0)), (1, .int (nI 4)), (2, .int v), (3, .int b9), (4, .int c9)]) hx hb dL_set_88 hl (by decide) rfl (fun ls hl => ?_)
  refine lv_ldc hx hb hown (hts (.constant RL 37 (-9000001)) (by decide +kernel)) dL_set_90 ?_
  subst hQ9
  subst hA9
  rw [List.append_nil] at hP
  exact kRetH_i ρ hx hb hr hlocks hP hS dL_set_92 rfl

set_option maxHeartbeats 4000000 in
set_option maxRecDepth 100000 in
/-- set: repair_bad -/
theorem c_L_set_repair_bad (l : Launch) (hst : l.stackTraces = false) (D : va_G) (cI cZ cO cJ : ClassId) (x a t b : Nat → Nat) (q : QS) (ρ : HS) (v b9 c9 : Int32) (sz : Nat) (h : ¬ inR v (nI 0) (nI 7)) : kMH l yL_set wsL_set rxL_set D (kT cI cZ cO cJ) [.ref (x 0), .int (nI 5), .int v, .int b9, .int c9] (wQ cI cZ cO x a t b q ρ) (fun u : HS => wQ cI cZ cO x a t b q u) 1 6 sz ((-9000001)) := by
  refine kEnterH (cc := cL_set) (maxL := 6) (ret := some .int) (hh := [(0, 87, 88, 35), (0, 87, 93, 38)]) (by decide +kernel) rfl (Nat.le_of_ble_eq_true rfl) ?_
  intro p e s m below meth c args hx hb hr hml hts hown hlocks htab hK hN A hA9 Q hQ9 hP hD hsz hS hA hX hC ls hl
  have hl : lv_has ls 6 [(0, .ref (x 0)), (1, .int (nI 5)), (2, .int v), (3, .int b9), (4, .int c9)] := hl
  obtain ⟨H, hH9⟩ : ∃ H, H = s.heap := ⟨_, rfl⟩
  rw [← hH9] at hP ⊢
  have hS : va_S A s.heap H [] := by rw [hH9]; exact va_S.rf
  have hlocs : ∃ locs : List Loc, locs = [] := ⟨_, rfl⟩
  obtain ⟨locs, hlocs⟩ := hlocs
  rw [← hlocs] at hS ⊢
  have hP : va_P D vwCl (wQ cI cZ cO x a t b q ρ ++ []) H := by rw [List.append_nil]; exact hP
  have hD : va_D A (wQ cI cZ cO x a t b q ρ ++ []) := by rw [List.append_nil]; exact hD
  refine lv_iload_n hx hb dL_set_0 rfl (lv_at hl 1 rfl) ?_
  refine lv_if_ne (tgt := 13) hx hb dL_set_1 (by decide) (fun _ => ?_) (fun c9 => absurd c9 (by decide +kernel))
  refine lv_iload_n hx hb dL_set_13 rfl (lv_at hl 1 rfl) ?_
  refine lv_iconst (v := nI 1) hx hb dL_set_14 (by decide +kernel) ?_
  refine lv_icmp_ne (tgt := 27) hx hb dL_set_15 (by decide) (fun _ => ?_) (fun c9 => absurd c9 (by decide +kernel))
  refine lv_iload_n hx hb dL_set_27 rfl (lv_at hl 1 rfl) ?_
  refine lv_iconst (v := nI 2) hx hb dL_set_28 (by decide +kernel) ?_
  refine lv_icmp_ne (tgt := 43) hx hb dL_set_29 (by decide) (fun _ => ?_) (fun c9 => absurd c9 (by decide +kernel))
  refine lv_iload_n hx hb dL_set_43 rfl (lv_at hl 1 rfl) ?_
  refine lv_iconst (v := nI 3) hx hb dL_set_44 (by decide +kernel) ?_
  refine lv_icmp_ne (tgt := 56) hx hb dL_set_45 (by decide) (fun _ => ?_) (fun c9 => absurd c9 (by decide +kernel))
  refine lv_iload_n hx hb dL_set_56 rfl (lv_at hl 1 rfl) ?_
  refine lv_iconst (v := nI 4) hx hb dL_set_57 (by decide +kernel) ?_
  refine lv_icmp_ne (tgt := 69) hx hb dL_set_58 (by decide) (fun _ => ?_) (fun c9 => absurd c9 (by decide +kernel))
  refine lv_iload_n hx hb dL_set_69 rfl (lv_at hl 1 rfl) ?_
  refine lv_iconst (v := nI 5) hx hb dL_set_70 (by decide +kernel) ?_
  refine lv_icmp_ne (tgt := 82) hx hb dL_set_71 (by decide) (fun c9 => absurd (by decide +kernel) c9) (fun _ => ?_)
  refine lv_aload_n hx hb dL_set_74 rfl (lv_at hl 0 rfl) ?_
  refine lv_iload_n hx hb dL_set_75 rfl (lv_at hl 2 rfl) ?_
  refine kCallXP_i (T := []) hP hD hS hA (vx_runV (As := [.int v]) (rest := []) ⟨hx, hb, hml, hown, hts⟩ (c_X2_repair_bad l hst D cI cZ cO cJ x a t b (qK q) (qHo q) (sT (qσ q)) (sE (qσ q)) (sD (qσ q)) (sF (qσ q)) (sS (qσ q)) (sC (qσ q)) (sL (qσ q)) (sT ρ) (sE ρ) (sD ρ) (sF ρ) (sS ρ) (sC ρ) (sL ρ) (qLo q) (qSe q) (qEf q) (qgp q) (qgi q) (qam q) (qli q) (qdl q) v H.size h) (cwV (rm := rxX2_repair) 1 hts gL_set_X2_repair rfl rfl rfl (by decide +kernel) ⟨Nat.le_of_ble_eq_true rfl, Nat.le_of_ble_eq_true rfl⟩) (kPreVXW hK hN hX (pfP hP) (pfD hD) hS (kfree (pfD hD) hS hA) (va_recv hK (pfP hP) (ci := 2) (q0 := 0) rfl rfl)) rfl rfl hl.1 rfl (lv_room (Nat.le_of_ble_eq_true rfl)) dL_set_76 ⟨Nat.le_of_ble_eq_true rfl, Nat.le_of_ble_eq_true rfl⟩) (fun ce q9 H locs hP hD hS hce hcv hcl => ?_)
  refine vx_catch (name := "java/lang/IllegalArgumentException") hown [] ⟨0, 87, 88, 35⟩ [⟨0, 87, 93, 38⟩] (by rw [htab]; rfl) (fun z h => absurd h (List.not_mem_nil)) rfl (by decide) (hts (.classLink RL 35 "java/lang/IllegalArgumentException") (by decide +kernel)) (kXw.use xB_iae_ok hX.2.2.2.2.2.2.1 _ (by decide +kernel)) hce hcv hcl ?_
  refine lv_astore (lv' := [(5, .ref q9), (0, .ref (x 0)), (1, .int (nI 5)), (2, .int v), (3, .int b9), (4, .int c9)]) hx hb dL_set_88 hl (by decide) rfl (fun ls hl => ?_)
  refine lv_ldc hx hb hown (hts (.constant RL 37 (-9000001)) (by decide +kernel)) dL_set_90 ?_
  subst hQ9
  subst hA9
  rw [List.append_nil] at hP
  exact kRetH_i ρ hx hb hr hlocks hP hS dL_set_92 rfl

set_option maxHeartbeats 4000000 in
set_option maxRecDepth 100000 in
/-- set: pass_bad -/
theorem c_L_set_pass_bad (l : Launch) (hst : l.stackTraces = false) (D : va_G) (cI cZ cO cJ : ClassId) (x a t b : Nat → Nat) (q : QS) (ρ : HS) (v b9 c9 : Int32) (sz : Nat) (h : ¬ inR v (nI 1) (nI 300)) : kMH l yL_set wsL_set rxL_set D (kT cI cZ cO cJ) [.ref (x 0), .int (nI 6), .int v, .int b9, .int c9] (wQ cI cZ cO x a t b q ρ) (fun u : HS => wQ cI cZ cO x a t b q u) 1 6 sz ((-9000001)) := by
  refine kEnterH (cc := cL_set) (maxL := 6) (ret := some .int) (hh := [(0, 87, 88, 35), (0, 87, 93, 38)]) (by decide +kernel) rfl (Nat.le_of_ble_eq_true rfl) ?_
  intro p e s m below meth c args hx hb hr hml hts hown hlocks htab hK hN A hA9 Q hQ9 hP hD hsz hS hA hX hC ls hl
  have hl : lv_has ls 6 [(0, .ref (x 0)), (1, .int (nI 6)), (2, .int v), (3, .int b9), (4, .int c9)] := hl
  obtain ⟨H, hH9⟩ : ∃ H, H = s.heap := ⟨_, rfl⟩
  rw [← hH9] at hP ⊢
  have hS : va_S A s.heap H [] := by rw [hH9]; exact va_S.rf
  have hlocs : ∃ locs : List Loc, locs = [] := ⟨_, rfl⟩
  obtain ⟨locs, hlocs⟩ := hlocs
  rw [← hlocs] at hS ⊢
  have hP : va_P D vwCl (wQ cI cZ cO x a t b q ρ ++ []) H := by rw [List.append_nil]; exact hP
  have hD : va_D A (wQ cI cZ cO x a t b q ρ ++ []) := by rw [List.append_nil]; exact hD
  refine lv_iload_n hx hb dL_set_0 rfl (lv_at hl 1 rfl) ?_
  refine lv_if_ne (tgt := 13) hx hb dL_set_1 (by decide) (fun _ => ?_) (fun c9 => absurd c9 (by decide +kernel))
  refine lv_iload_n hx hb dL_set_13 rfl (lv_at hl 1 rfl) ?_
  refine lv_iconst (v := nI 1) hx hb dL_set_14 (by decide +kernel) ?_
  refine lv_icmp_ne (tgt := 27) hx hb dL_set_15 (by decide) (fun _ => ?_) (fun c9 => absurd c9 (by decide +kernel))
  refine lv_iload_n hx hb dL_set_27 rfl (lv_at hl 1 rfl) ?_
  refine lv_iconst (v := nI 2) hx hb dL_set_28 (by decide +kernel) ?_
  refine lv_icmp_ne (tgt := 43) hx hb dL_set_29 (by decide) (fun _ => ?_) (fun c9 => absurd c9 (by decide +kernel))
  refine lv_iload_n hx hb dL_set_43 rfl (lv_at hl 1 rfl) ?_
  refine lv_iconst (v := nI 3) hx hb dL_set_44 (by decide +kernel) ?_
  refine lv_icmp_ne (tgt := 56) hx hb dL_set_45 (by decide) (fun _ => ?_) (fun c9 => absurd c9 (by decide +kernel))
  refine lv_iload_n hx hb dL_set_56 rfl (lv_at hl 1 rfl) ?_
  refine lv_iconst (v := nI 4) hx hb dL_set_57 (by decide +kernel) ?_
  refine lv_icmp_ne (tgt := 69) hx hb dL_set_58 (by decide) (fun _ => ?_) (fun c9 => absurd c9 (by decide +kernel))
  refine lv_iload_n hx hb dL_set_69 rfl (lv_at hl 1 rfl) ?_
  refine lv_iconst (v := nI 5) hx hb dL_set_70 (by decide +kernel) ?_
  refine lv_icmp_ne (tgt := 82) hx hb dL_set_71 (by decide) (fun _ => ?_) (fun c9 => absurd c9 (by decide +kernel))
  refine lv_aload_n hx hb dL_set_82 rfl (lv_at hl 0 rfl) ?_
  refine lv_iload_n hx hb dL_set_83 rfl (lv_at hl 2 rfl) ?_
  refine kCallXP_i (T := []) hP hD hS hA (vx_runV (As := [.int v]) (rest := []) ⟨hx, hb, hml, hown, hts⟩ (c_X2_pass_bad l hst D cI cZ cO cJ x a t b (qK q) (qHo q) (sT (qσ q)) (sE (qσ q)) (sD (qσ q)) (sF (qσ q)) (sS (qσ q)) (sC (qσ q)) (sL (qσ q)) (sT ρ) (sE ρ) (sD ρ) (sF ρ) (sS ρ) (sC ρ) (sL ρ) (qLo q) (qSe q) (qEf q) (qgp q) (qgi q) (qam q) (qli q) (qdl q) v H.size h) (cwV (rm := rxX2_pass) 1 hts gL_set_X2_pass rfl rfl rfl (by decide +kernel) ⟨Nat.le_of_ble_eq_true rfl, Nat.le_of_ble_eq_true rfl⟩) (kPreVXW hK hN hX (pfP hP) (pfD hD) hS (kfree (pfD hD) hS hA) (va_recv hK (pfP hP) (ci := 2) (q0 := 0) rfl rfl)) rfl rfl hl.1 rfl (lv_room (Nat.le_of_ble_eq_true rfl)) dL_set_84 ⟨Nat.le_of_ble_eq_true rfl, Nat.le_of_ble_eq_true rfl⟩) (fun ce q9 H locs hP hD hS hce hcv hcl => ?_)
  refine vx_catch (name := "java/lang/IllegalArgumentException") hown [] ⟨0, 87, 88, 35⟩ [⟨0, 87, 93, 38⟩] (by rw [htab]; rfl) (fun z h => absurd h (List.not_mem_nil)) rfl (by decide) (hts (.classLink RL 35 "java/lang/IllegalArgumentException") (by decide +kernel)) (kXw.use xB_iae_ok hX.2.2.2.2.2.2.1 _ (by decide +kernel)) hce hcv hcl ?_
  refine lv_astore (lv' := [(5, .ref q9), (0, .ref (x 0)), (1, .int (nI 6)), (2, .int v), (3, .int b9), (4, .int c9)]) hx hb dL_set_88 hl (by decide) rfl (fun ls hl => ?_)
  refine lv_ldc hx hb hown (hts (.constant RL 37 (-9000001)) (by decide +kernel)) dL_set_90 ?_
  subst hQ9
  subst hA9
  rw [List.append_nil] at hP
  exact kRetH_i ρ hx hb hr hlocks hP hS dL_set_92 rfl

set_option maxHeartbeats 4000000 in
set_option maxRecDepth 100000 in
/-- set: fail_two -/
theorem c_L_set_fail_two (l : Launch) (hst : l.stackTraces = false) (D : va_G) (cI cZ cO cJ : ClassId) (x a t b : Nat → Nat) (q : QS) (ρ : HS) (f : Nat) (b9 c9 : Int32) (sz : Nat) (hf : f < 8) (hF : ¬ sF (qσ q) f = 0) : kMH l yL_set wsL_set rxL_set D (kT cI cZ cO cJ) [.ref (x 0), .int (nI 4), .int (nI f), .int b9, .int c9] (wQ cI cZ cO x a t b q ρ) (fun u : HS => wQ cI cZ cO x a t b q u) 1 6 sz ((-9000002)) := by
  refine kEnterH (cc := cL_set) (maxL := 6) (ret := some .int) (hh := [(0, 87, 88, 35), (0, 87, 93, 38)]) (by decide +kernel) rfl (Nat.le_of_ble_eq_true rfl) ?_
  intro p e s m below meth c args hx hb hr hml hts hown hlocks htab hK hN A hA9 Q hQ9 hP hD hsz hS hA hX hC ls hl
  have hl : lv_has ls 6 [(0, .ref (x 0)), (1, .int (nI 4)), (2, .int (nI f)), (3, .int b9), (4, .int c9)] := hl
  obtain ⟨H, hH9⟩ : ∃ H, H = s.heap := ⟨_, rfl⟩
  rw [← hH9] at hP ⊢
  have hS : va_S A s.heap H [] := by rw [hH9]; exact va_S.rf
  have hlocs : ∃ locs : List Loc, locs = [] := ⟨_, rfl⟩
  obtain ⟨locs, hlocs⟩ := hlocs
  rw [← hlocs] at hS ⊢
  have hP : va_P D vwCl (wQ cI cZ cO x a t b q ρ ++ []) H := by rw [List.append_nil]; exact hP
  have hD : va_D A (wQ cI cZ cO x a t b q ρ ++ []) := by rw [List.append_nil]; exact hD
  refine lv_iload_n hx hb dL_set_0 rfl (lv_at hl 1 rfl) ?_
  refine lv_if_ne (tgt := 13) hx hb dL_set_1 (by decide) (fun _ => ?_) (fun c9 => absurd c9 (by decide +kernel))
  refine lv_iload_n hx hb dL_set_13 rfl (lv_at hl 1 rfl) ?_
  refine lv_iconst (v := nI 1) hx hb dL_set_14 (by decide +kernel) ?_
  refine lv_icmp_ne (tgt := 27) hx hb dL_set_15 (by decide) (fun _ => ?_) (fun c9 => absurd c9 (by decide +kernel))
  refine lv_iload_n hx hb dL_set_27 rfl (lv_at hl 1 rfl) ?_
  refine lv_iconst (v := nI 2) hx hb dL_set_28 (by decide +kernel) ?_
  refine lv_icmp_ne (tgt := 43) hx hb dL_set_29 (by decide) (fun _ => ?_) (fun c9 => absurd c9 (by decide +kernel))
  refine lv_iload_n hx hb dL_set_43 rfl (lv_at hl 1 rfl) ?_
  refine lv_iconst (v := nI 3) hx hb dL_set_44 (by decide +kernel) ?_
  refine lv_icmp_ne (tgt := 56) hx hb dL_set_45 (by decide) (fun _ => ?_) (fun c9 => absurd c9 (by decide +kernel))
  refine lv_iload_n hx hb dL_set_56 rfl (lv_at hl 1 rfl) ?_
  refine lv_iconst (v := nI 4) hx hb dL_set_57 (by decide +kernel) ?_
  refine lv_icmp_ne (tgt := 69) hx hb dL_set_58 (by decide) (fun c9 => absurd (by decide +kernel) c9) (fun _ => ?_)
  refine lv_aload_n hx hb dL_set_61 rfl (lv_at hl 0 rfl) ?_
  refine lv_iload_n hx hb dL_set_62 rfl (lv_at hl 2 rfl) ?_
  refine kCallXP_i (T := []) hP hD hS hA (vx_runV (As := [.int (nI f)]) (rest := []) ⟨hx, hb, hml, hown, hts⟩ (c_X2_fail_two l hst D cI cZ cO cJ x a t b (qK q) (qHo q) (sT (qσ q)) (sE (qσ q)) (sD (qσ q)) (sF (qσ q)) (sS (qσ q)) (sC (qσ q)) (sL (qσ q)) (sT ρ) (sE ρ) (sD ρ) (sF ρ) (sS ρ) (sC ρ) (sL ρ) (qLo q) (qSe q) (qEf q) (qgp q) (qgi q) (qam q) (qli q) (qdl q) f H.size hf hF) (cwV (rm := rxX2_fail) 1 hts gL_set_X2_fail rfl rfl rfl (by decide +kernel) ⟨Nat.le_of_ble_eq_true rfl, Nat.le_of_ble_eq_true rfl⟩) (kPreVXW hK hN hX (pfP hP) (pfD hD) hS (kfree (pfD hD) hS hA) (va_recv hK (pfP hP) (ci := 2) (q0 := 0) rfl rfl)) rfl rfl hl.1 rfl (lv_room (Nat.le_of_ble_eq_true rfl)) dL_set_63 ⟨Nat.le_of_ble_eq_true rfl, Nat.le_of_ble_eq_true rfl⟩) (fun ce q9 H locs hP hD hS hce hcv hcl => ?_)
  refine vx_catch (name := "java/lang/IllegalStateException") hown [⟨0, 87, 88, 35⟩] ⟨0, 87, 93, 38⟩ [] (by rw [htab]; rfl) (fun z h => by rw [List.mem_singleton.mp h]; exact Or.inr ⟨by decide, "java/lang/IllegalArgumentException", hts (.classLink RL 35 "java/lang/IllegalArgumentException") (by decide +kernel), hC⟩) rfl (by decide) (hts (.classLink RL 38 "java/lang/IllegalStateException") (by decide +kernel)) (kXw.use xB_ise_ok hX.2.2.2.2.2.2.2 _ (by decide +kernel)) hce hcv hcl ?_
  refine lv_astore (lv' := [(5, .ref q9), (0, .ref (x 0)), (1, .int (nI 4)), (2, .int (nI f)), (3, .int b9), (4, .int c9)]) hx hb dL_set_93 hl (by decide) rfl (fun ls hl => ?_)
  refine lv_ldc hx hb hown (hts (.constant RL 40 (-9000002)) (by decide +kernel)) dL_set_95 ?_
  subst hQ9
  subst hA9
  rw [List.append_nil] at hP
  exact kRetH_i ρ hx hb hr hlocks hP hS dL_set_97 rfl

set_option maxHeartbeats 4000000 in
set_option maxRecDepth 100000 in
/-- set: repair_two -/
theorem c_L_set_repair_two (l : Launch) (hst : l.stackTraces = false) (D : va_G) (cI cZ cO cJ : ClassId) (x a t b : Nat → Nat) (q : QS) (ρ : HS) (f : Nat) (b9 c9 : Int32) (sz : Nat) (hf : f < 8) (hF : sF (qσ q) f = 0) : kMH l yL_set wsL_set rxL_set D (kT cI cZ cO cJ) [.ref (x 0), .int (nI 5), .int (nI f), .int b9, .int c9] (wQ cI cZ cO x a t b q ρ) (fun u : HS => wQ cI cZ cO x a t b q u) 1 6 sz ((-9000002)) := by
  refine kEnterH (cc := cL_set) (maxL := 6) (ret := some .int) (hh := [(0, 87, 88, 35), (0, 87, 93, 38)]) (by decide +kernel) rfl (Nat.le_of_ble_eq_true rfl) ?_
  intro p e s m below meth c args hx hb hr hml hts hown hlocks htab hK hN A hA9 Q hQ9 hP hD hsz hS hA hX hC ls hl
  have hl : lv_has ls 6 [(0, .ref (x 0)), (1, .int (nI 5)), (2, .int (nI f)), (3, .int b9), (4, .int c9)] := hl
  obtain ⟨H, hH9⟩ : ∃ H, H = s.heap := ⟨_, rfl⟩
  rw [← hH9] at hP ⊢
  have hS : va_S A s.heap H [] := by rw [hH9]; exact va_S.rf
  have hlocs : ∃ locs : List Loc, locs = [] := ⟨_, rfl⟩
  obtain ⟨locs, hlocs⟩ := hlocs
  rw [← hlocs] at hS ⊢
  have hP : va_P D vwCl (wQ cI cZ cO x a t b q ρ ++ []) H := by rw [List.append_nil]; exact hP
  have hD : va_D A (wQ cI cZ cO x a t b q ρ ++ []) := by rw [List.append_nil]; exact hD
  refine lv_iload_n hx hb dL_set_0 rfl (lv_at hl 1 rfl) ?_
  refine lv_if_ne (tgt := 13) hx hb dL_set_1 (by decide) (fun _ => ?_) (fun c9 => absurd c9 (by decide +kernel))
  refine lv_iload_n hx hb dL_set_13 rfl (lv_at hl 1 rfl) ?_
  refine lv_iconst (v := nI 1) hx hb dL_set_14 (by decide +kernel) ?_
  refine lv_icmp_ne (tgt := 27) hx hb dL_set_15 (by decide) (fun _ => ?_) (fun c9 => absurd c9 (by decide +kernel))
  refine lv_iload_n hx hb dL_set_27 rfl (lv_at hl 1 rfl) ?_
  refine lv_iconst (v := nI 2) hx hb dL_set_28 (by decide +kernel) ?_
  refine lv_icmp_ne (tgt := 43) hx hb dL_set_29 (by decide) (fun _ => ?_) (fun c9 => absurd c9 (by decide +kernel))
  refine lv_iload_n hx hb dL_set_43 rfl (lv_at hl 1 rfl) ?_
  refine lv_iconst (v := nI 3) hx hb dL_set_44 (by decide +kernel) ?_
  refine lv_icmp_ne (tgt := 56) hx hb dL_set_45 (by decide) (fun _ => ?_) (fun c9 => absurd c9 (by decide +kernel))
  refine lv_iload_n hx hb dL_set_56 rfl (lv_at hl 1 rfl) ?_
  refine lv_iconst (v := nI 4) hx hb dL_set_57 (by decide +kernel) ?_
  refine lv_icmp_ne (tgt := 69) hx hb dL_set_58 (by decide) (fun _ => ?_) (fun c9 => absurd c9 (by decide +kernel))
  refine lv_iload_n hx hb dL_set_69 rfl (lv_at hl 1 rfl) ?_
  refine lv_iconst (v := nI 5) hx hb dL_set_70 (by decide +kernel) ?_
  refine lv_icmp_ne (tgt := 82) hx hb dL_set_71 (by decide) (fun c9 => absurd (by decide +kernel) c9) (fun _ => ?_)
  refine lv_aload_n hx hb dL_set_74 rfl (lv_at hl 0 rfl) ?_
  refine lv_iload_n hx hb dL_set_75 rfl (lv_at hl 2 rfl) ?_
  refine kCallXP_i (T := []) hP hD hS hA (vx_runV (As := [.int (nI f)]) (rest := []) ⟨hx, hb, hml, hown, hts⟩ (c_X2_repair_two l hst D cI cZ cO cJ x a t b (qK q) (qHo q) (sT (qσ q)) (sE (qσ q)) (sD (qσ q)) (sF (qσ q)) (sS (qσ q)) (sC (qσ q)) (sL (qσ q)) (sT ρ) (sE ρ) (sD ρ) (sF ρ) (sS ρ) (sC ρ) (sL ρ) (qLo q) (qSe q) (qEf q) (qgp q) (qgi q) (qam q) (qli q) (qdl q) f H.size hf hF) (cwV (rm := rxX2_repair) 1 hts gL_set_X2_repair rfl rfl rfl (by decide +kernel) ⟨Nat.le_of_ble_eq_true rfl, Nat.le_of_ble_eq_true rfl⟩) (kPreVXW hK hN hX (pfP hP) (pfD hD) hS (kfree (pfD hD) hS hA) (va_recv hK (pfP hP) (ci := 2) (q0 := 0) rfl rfl)) rfl rfl hl.1 rfl (lv_room (Nat.le_of_ble_eq_true rfl)) dL_set_76 ⟨Nat.le_of_ble_eq_true rfl, Nat.le_of_ble_eq_true rfl⟩) (fun ce q9 H locs hP hD hS hce hcv hcl => ?_)
  refine vx_catch (name := "java/lang/IllegalStateException") hown [⟨0, 87, 88, 35⟩] ⟨0, 87, 93, 38⟩ [] (by rw [htab]; rfl) (fun z h => by rw [List.mem_singleton.mp h]; exact Or.inr ⟨by decide, "java/lang/IllegalArgumentException", hts (.classLink RL 35 "java/lang/IllegalArgumentException") (by decide +kernel), hC⟩) rfl (by decide) (hts (.classLink RL 38 "java/lang/IllegalStateException") (by decide +kernel)) (kXw.use xB_ise_ok hX.2.2.2.2.2.2.2 _ (by decide +kernel)) hce hcv hcl ?_
  refine lv_astore (lv' := [(5, .ref q9), (0, .ref (x 0)), (1, .int (nI 5)), (2, .int (nI f)), (3, .int b9), (4, .int c9)]) hx hb dL_set_93 hl (by decide) rfl (fun ls hl => ?_)
  refine lv_ldc hx hb hown (hts (.constant RL 40 (-9000002)) (by decide +kernel)) dL_set_95 ?_
  subst hQ9
  subst hA9
  rw [List.append_nil] at hP
  exact kRetH_i ρ hx hb hr hlocks hP hS dL_set_97 rfl

abbrev rmL_setGains : Room := { frames := 2, cells := 0, slots := 0, locals := 44 }
set_option maxHeartbeats 4000000 in
set_option maxRecDepth 100000 in
/-- setGains: setGains -/
theorem c_L_setGains (l : Launch) (D : va_G) (cI cZ cO cJ : ClassId) (x a t b : Nat → Nat) (q : QS) (ρ : HS) (v w : Int32) (sz : Nat) (hv : inR v (nI 0) (nI 200)) (hw : inR w (nI 0) (nI 200)) : kMH l yL_setGains wsL_setGains rmL_setGains D (kT cI cZ cO cJ) [.ref (x 0), .int v, .int w] (wQ cI cZ cO x a t b q ρ) (fun u : HS => wQ cI cZ cO x a t b (qsGains q v w) u) 0 0 sz (nI 0) := by
  refine kEnterH (cc := cL_setGains) (maxL := 4) (ret := some .int) (hh := [(0, 7, 8, 35)]) (by decide +kernel) rfl (Nat.le_of_ble_eq_true rfl) ?_
  intro p e s m below meth c args hx hb hr hml hts hown hlocks htab hK hN A hA9 Q hQ9 hP hD hsz hS hA hX hC ls hl
  have hl : lv_has ls 4 [(0, .ref (x 0)), (1, .int v), (2, .int w)] := hl
  obtain ⟨H, hH9⟩ : ∃ H, H = s.heap := ⟨_, rfl⟩
  rw [← hH9] at hP ⊢
  have hS : va_S A s.heap H [] := by rw [hH9]; exact va_S.rf
  have hlocs : ∃ locs : List Loc, locs = [] := ⟨_, rfl⟩
  obtain ⟨locs, hlocs⟩ := hlocs
  rw [← hlocs] at hS ⊢
  have hP : va_P D vwCl (wQ cI cZ cO x a t b q ρ ++ []) H := by rw [List.append_nil]; exact hP
  have hD : va_D A (wQ cI cZ cO x a t b q ρ ++ []) := by rw [List.append_nil]; exact hD
  refine lv_aload_n hx hb dL_setGains_0 rfl (lv_at hl 0 rfl) ?_
  refine lv_iload_n hx hb dL_setGains_1 rfl (lv_at hl 1 rfl) ?_
  refine lv_iload_n hx hb dL_setGains_2 rfl (lv_at hl 2 rfl) ?_
  refine kCallP_v (mc := 0) (ms := 0) (T := []) (W1 := fun _ : Unit => wQ cI cZ cO x a t b (qsGains q v w) ρ) (fun _ _ h => h) hP hD hS hA (fun _ => rfl) (va_runV (As := [.int v, .int w]) (rest := []) ⟨hx, hb, hml, hown, hts⟩ (c_X2_setGains l D cI cZ cO cJ x a t b (qK q) (qHo q) (sT (qσ q)) (sE (qσ q)) (sD (qσ q)) (sF (qσ q)) (sS (qσ q)) (sC (qσ q)) (sL (qσ q)) (sT ρ) (sE ρ) (sD ρ) (sF ρ) (sS ρ) (sC ρ) (sL ρ) (qLo q) (qSe q) (qEf q) (qgp q) (qgi q) (qam q) (qli q) (qdl q) v w H.size hv.1 hv.2 hw.1 hw.2) (cwV (rm := rmX2_setGains) 2 hts gL_setGains_X2_setGains rfl rfl rfl (by decide +kernel) ⟨Nat.le_of_ble_eq_true rfl, Nat.le_of_ble_eq_true rfl⟩) (kPreVW hK hN (pfP hP) (pfD hD) (va_recv hK (pfP hP) (ci := 2) (q0 := 0) rfl rfl)) rfl rfl hl.1 rfl (lv_room (Nat.le_of_ble_eq_true rfl)) dL_setGains_3 ⟨Nat.zero_le _, Nat.zero_le _⟩) (fun u9 H locs hr9 hP hD hS => ?_)
  refine lv_iconst (v := nI 0) hx hb dL_setGains_6 (by decide +kernel) ?_
  subst hQ9
  subst hA9
  rw [List.append_nil] at hP
  exact kRetH_i ρ hx hb hr hlocks hP hS dL_setGains_7 rfl

abbrev rxL_setGains : Room := { frames := 8, cells := 1, slots := 6, locals := 134 }
set_option maxHeartbeats 4000000 in
set_option maxRecDepth 100000 in
/-- setGains: setGains_bad -/
theorem c_L_setGains_bad (l : Launch) (hst : l.stackTraces = false) (D : va_G) (cI cZ cO cJ : ClassId) (x a t b : Nat → Nat) (q : QS) (ρ : HS) (v w : Int32) (sz : Nat) (h : ¬ (inR v (nI 0) (nI 200) ∧ inR w (nI 0) (nI 200))) : kMH l yL_setGains wsL_setGains rxL_setGains D (kT cI cZ cO cJ) [.ref (x 0), .int v, .int w] (wQ cI cZ cO x a t b q ρ) (fun u : HS => wQ cI cZ cO x a t b q u) 1 6 sz ((-9000001)) := by
  refine kEnterH (cc := cL_setGains) (maxL := 4) (ret := some .int) (hh := [(0, 7, 8, 35)]) (by decide +kernel) rfl (Nat.le_of_ble_eq_true rfl) ?_
  intro p e s m below meth c args hx hb hr hml hts hown hlocks htab hK hN A hA9 Q hQ9 hP hD hsz hS hA hX hC ls hl
  have hl : lv_has ls 4 [(0, .ref (x 0)), (1, .int v), (2, .int w)] := hl
  obtain ⟨H, hH9⟩ : ∃ H, H = s.heap := ⟨_, rfl⟩
  rw [← hH9] at hP ⊢
  have hS : va_S A s.heap H [] := by rw [hH9]; exact va_S.rf
  have hlocs : ∃ locs : List Loc, locs = [] := ⟨_, rfl⟩
  obtain ⟨locs, hlocs⟩ := hlocs
  rw [← hlocs] at hS ⊢
  have hP : va_P D vwCl (wQ cI cZ cO x a t b q ρ ++ []) H := by rw [List.append_nil]; exact hP
  have hD : va_D A (wQ cI cZ cO x a t b q ρ ++ []) := by rw [List.append_nil]; exact hD
  refine lv_aload_n hx hb dL_setGains_0 rfl (lv_at hl 0 rfl) ?_
  refine lv_iload_n hx hb dL_setGains_1 rfl (lv_at hl 1 rfl) ?_
  refine lv_iload_n hx hb dL_setGains_2 rfl (lv_at hl 2 rfl) ?_
  refine kCallXP_v (T := []) hP hD hS hA (vx_runV (As := [.int v, .int w]) (rest := []) ⟨hx, hb, hml, hown, hts⟩ (c_X2_setGains_bad l hst D cI cZ cO cJ x a t b (qK q) (qHo q) (sT (qσ q)) (sE (qσ q)) (sD (qσ q)) (sF (qσ q)) (sS (qσ q)) (sC (qσ q)) (sL (qσ q)) (sT ρ) (sE ρ) (sD ρ) (sF ρ) (sS ρ) (sC ρ) (sL ρ) (qLo q) (qSe q) (qEf q) (qgp q) (qgi q) (qam q) (qli q) (qdl q) v w H.size h) (cwV (rm := rxX2_setGains) 2 hts gL_setGains_X2_setGains rfl rfl rfl (by decide +kernel) ⟨Nat.le_of_ble_eq_true rfl, Nat.le_of_ble_eq_true rfl⟩) (kPreVXW hK hN hX (pfP hP) (pfD hD) hS (kfree (pfD hD) hS hA) (va_recv hK (pfP hP) (ci := 2) (q0 := 0) rfl rfl)) rfl rfl hl.1 rfl (lv_room (Nat.le_of_ble_eq_true rfl)) dL_setGains_3 ⟨Nat.le_of_ble_eq_true rfl, Nat.le_of_ble_eq_true rfl⟩) (fun ce q9 H locs hP hD hS hce hcv hcl => ?_)
  refine vx_catch (name := "java/lang/IllegalArgumentException") hown [] ⟨0, 7, 8, 35⟩ [] (by rw [htab]; rfl) (fun z h => absurd h (List.not_mem_nil)) rfl (by decide) (hts (.classLink RL 35 "java/lang/IllegalArgumentException") (by decide +kernel)) (kXw.use xB_iae_ok hX.2.2.2.2.2.2.1 _ (by decide +kernel)) hce hcv hcl ?_
  refine lv_astore_n (lv' := [(3, .ref q9), (0, .ref (x 0)), (1, .int v), (2, .int w)]) hx hb dL_setGains_8 rfl hl (by decide) rfl (fun ls hl => ?_)
  refine lv_ldc hx hb hown (hts (.constant RL 37 (-9000001)) (by decide +kernel)) dL_setGains_9 ?_
  subst hQ9
  subst hA9
  rw [List.append_nil] at hP
  exact kRetH_i ρ hx hb hr hlocks hP hS dL_setGains_11 rfl

abbrev rmL_setHall : Room := { frames := 2, cells := 0, slots := 0, locals := 44 }
set_option maxHeartbeats 4000000 in
set_option maxRecDepth 100000 in
/-- setHall: setHall -/
theorem c_L_setHall (l : Launch) (D : va_G) (cI cZ cO cJ : ClassId) (x a t b : Nat → Nat) (q : QS) (ρ : HS) (v w : Int32) (sz : Nat) (hv : inR v (nI 1000) (nI 5000)) (hw : inR w (nI 1000) (nI 5000)) : kMH l yL_setHall wsL_setHall rmL_setHall D (kT cI cZ cO cJ) [.ref (x 0), .int v, .int w] (wQ cI cZ cO x a t b q ρ) (fun u : HS => wQ cI cZ cO x a t b (qsHall q v w) u) 0 0 sz (nI 0) := by
  refine kEnterH (cc := cL_setHall) (maxL := 4) (ret := some .int) (hh := [(0, 7, 8, 35)]) (by decide +kernel) rfl (Nat.le_of_ble_eq_true rfl) ?_
  intro p e s m below meth c args hx hb hr hml hts hown hlocks htab hK hN A hA9 Q hQ9 hP hD hsz hS hA hX hC ls hl
  have hl : lv_has ls 4 [(0, .ref (x 0)), (1, .int v), (2, .int w)] := hl
  obtain ⟨H, hH9⟩ : ∃ H, H = s.heap := ⟨_, rfl⟩
  rw [← hH9] at hP ⊢
  have hS : va_S A s.heap H [] := by rw [hH9]; exact va_S.rf
  have hlocs : ∃ locs : List Loc, locs = [] := ⟨_, rfl⟩
  obtain ⟨locs, hlocs⟩ := hlocs
  rw [← hlocs] at hS ⊢
  have hP : va_P D vwCl (wQ cI cZ cO x a t b q ρ ++ []) H := by rw [List.append_nil]; exact hP
  have hD : va_D A (wQ cI cZ cO x a t b q ρ ++ []) := by rw [List.append_nil]; exact hD
  refine lv_aload_n hx hb dL_setHall_0 rfl (lv_at hl 0 rfl) ?_
  refine lv_iload_n hx hb dL_setHall_1 rfl (lv_at hl 1 rfl) ?_
  refine lv_iload_n hx hb dL_setHall_2 rfl (lv_at hl 2 rfl) ?_
  refine kCallP_v (mc := 0) (ms := 0) (T := []) (W1 := fun _ : Unit => wQ cI cZ cO x a t b (qsHall q v w) ρ) (fun _ _ h => h) hP hD hS hA (fun _ => rfl) (va_runV (As := [.int v, .int w]) (rest := []) ⟨hx, hb, hml, hown, hts⟩ (c_X2_setHall l D cI cZ cO cJ x a t b (qK q) (qHo q) (sT (qσ q)) (sE (qσ q)) (sD (qσ q)) (sF (qσ q)) (sS (qσ q)) (sC (qσ q)) (sL (qσ q)) (sT ρ) (sE ρ) (sD ρ) (sF ρ) (sS ρ) (sC ρ) (sL ρ) (qLo q) (qSe q) (qEf q) (qgp q) (qgi q) (qam q) (qli q) (qdl q) v w H.size hv.1 hv.2 hw.1 hw.2) (cwV (rm := rmX2_setHall) 2 hts gL_setHall_X2_setHall rfl rfl rfl (by decide +kernel) ⟨Nat.le_of_ble_eq_true rfl, Nat.le_of_ble_eq_true rfl⟩) (kPreVW hK hN (pfP hP) (pfD hD) (va_recv hK (pfP hP) (ci := 2) (q0 := 0) rfl rfl)) rfl rfl hl.1 rfl (lv_room (Nat.le_of_ble_eq_true rfl)) dL_setHall_3 ⟨Nat.zero_le _, Nat.zero_le _⟩) (fun u9 H locs hr9 hP hD hS => ?_)
  refine lv_iconst (v := nI 0) hx hb dL_setHall_6 (by decide +kernel) ?_
  subst hQ9
  subst hA9
  rw [List.append_nil] at hP
  exact kRetH_i ρ hx hb hr hlocks hP hS dL_setHall_7 rfl

abbrev rxL_setHall : Room := { frames := 8, cells := 1, slots := 6, locals := 134 }
set_option maxHeartbeats 4000000 in
set_option maxRecDepth 100000 in
/-- setHall: setHall_bad -/
theorem c_L_setHall_bad (l : Launch) (hst : l.stackTraces = false) (D : va_G) (cI cZ cO cJ : ClassId) (x a t b : Nat → Nat) (q : QS) (ρ : HS) (v w : Int32) (sz : Nat) (h : ¬ (inR v (nI 1000) (nI 5000) ∧ inR w (nI 1000) (nI 5000))) : kMH l yL_setHall wsL_setHall rxL_setHall D (kT cI cZ cO cJ) [.ref (x 0), .int v, .int w] (wQ cI cZ cO x a t b q ρ) (fun u : HS => wQ cI cZ cO x a t b q u) 1 6 sz ((-9000001)) := by
  refine kEnterH (cc := cL_setHall) (maxL := 4) (ret := some .int) (hh := [(0, 7, 8, 35)]) (by decide +kernel) rfl (Nat.le_of_ble_eq_true rfl) ?_
  intro p e s m below meth c args hx hb hr hml hts hown hlocks htab hK hN A hA9 Q hQ9 hP hD hsz hS hA hX hC ls hl
  have hl : lv_has ls 4 [(0, .ref (x 0)), (1, .int v), (2, .int w)] := hl
  obtain ⟨H, hH9⟩ : ∃ H, H = s.heap := ⟨_, rfl⟩
  rw [← hH9] at hP ⊢
  have hS : va_S A s.heap H [] := by rw [hH9]; exact va_S.rf
  have hlocs : ∃ locs : List Loc, locs = [] := ⟨_, rfl⟩
  obtain ⟨locs, hlocs⟩ := hlocs
  rw [← hlocs] at hS ⊢
  have hP : va_P D vwCl (wQ cI cZ cO x a t b q ρ ++ []) H := by rw [List.append_nil]; exact hP
  have hD : va_D A (wQ cI cZ cO x a t b q ρ ++ []) := by rw [List.append_nil]; exact hD
  refine lv_aload_n hx hb dL_setHall_0 rfl (lv_at hl 0 rfl) ?_
  refine lv_iload_n hx hb dL_setHall_1 rfl (lv_at hl 1 rfl) ?_
  refine lv_iload_n hx hb dL_setHall_2 rfl (lv_at hl 2 rfl) ?_
  refine kCallXP_v (T := []) hP hD hS hA (vx_runV (As := [.int v, .int w]) (rest := []) ⟨hx, hb, hml, hown, hts⟩ (c_X2_setHall_bad l hst D cI cZ cO cJ x a t b (qK q) (qHo q) (sT (qσ q)) (sE (qσ q)) (sD (qσ q)) (sF (qσ q)) (sS (qσ q)) (sC (qσ q)) (sL (qσ q)) (sT ρ) (sE ρ) (sD ρ) (sF ρ) (sS ρ) (sC ρ) (sL ρ) (qLo q) (qSe q) (qEf q) (qgp q) (qgi q) (qam q) (qli q) (qdl q) v w H.size h) (cwV (rm := rxX2_setHall) 2 hts gL_setHall_X2_setHall rfl rfl rfl (by decide +kernel) ⟨Nat.le_of_ble_eq_true rfl, Nat.le_of_ble_eq_true rfl⟩) (kPreVXW hK hN hX (pfP hP) (pfD hD) hS (kfree (pfD hD) hS hA) (va_recv hK (pfP hP) (ci := 2) (q0 := 0) rfl rfl)) rfl rfl hl.1 rfl (lv_room (Nat.le_of_ble_eq_true rfl)) dL_setHall_3 ⟨Nat.le_of_ble_eq_true rfl, Nat.le_of_ble_eq_true rfl⟩) (fun ce q9 H locs hP hD hS hce hcv hcl => ?_)
  refine vx_catch (name := "java/lang/IllegalArgumentException") hown [] ⟨0, 7, 8, 35⟩ [] (by rw [htab]; rfl) (fun z h => absurd h (List.not_mem_nil)) rfl (by decide) (hts (.classLink RL 35 "java/lang/IllegalArgumentException") (by decide +kernel)) (kXw.use xB_iae_ok hX.2.2.2.2.2.2.1 _ (by decide +kernel)) hce hcv hcl ?_
  refine lv_astore_n (lv' := [(3, .ref q9), (0, .ref (x 0)), (1, .int v), (2, .int w)]) hx hb dL_setHall_8 rfl hl (by decide) rfl (fun ls hl => ?_)
  refine lv_ldc hx hb hown (hts (.constant RL 37 (-9000001)) (by decide +kernel)) dL_setHall_9 ?_
  subst hQ9
  subst hA9
  rw [List.append_nil] at hP
  exact kRetH_i ρ hx hb hr hlocks hP hS dL_setHall_11 rfl

abbrev rxL_of : Room := { frames := 10, cells := 1, slots := 6, locals := 176 }
set_option maxHeartbeats 4000000 in
set_option maxRecDepth 100000 in
/-- of: command_bad -/
theorem c_L_of_command_bad (l : Launch) (hst : l.stackTraces = false) (D : va_G) (cI cZ cO cJ : ClassId) (x a t b : Nat → Nat) (q : QS) (ρ : HS) (v w : Int32) (sz : Nat) (h : ¬ inR v (nI 0) (nI 7)) : kMH l yL_of wsL_of rxL_of D (kT cI cZ cO cJ) [.ref (x 0), .int (nI 0), .int v, .int w] (wQ cI cZ cO x a t b q ρ) (fun u : HS => wQ cI cZ cO x a t b q u) 1 6 sz ((-9000001)) := by
  refine kEnterH (cc := cL_of) (maxL := 5) (ret := some .int) (hh := [(0, 113, 114, 35)]) (by decide +kernel) rfl (Nat.le_of_ble_eq_true rfl) ?_
  intro p e s m below meth c args hx hb hr hml hts hown hlocks htab hK hN A hA9 Q hQ9 hP hD hsz hS hA hX hC ls hl
  have hl : lv_has ls 5 [(0, .ref (x 0)), (1, .int (nI 0)), (2, .int v), (3, .int w)] := hl
  obtain ⟨H, hH9⟩ : ∃ H, H = s.heap := ⟨_, rfl⟩
  rw [← hH9] at hP ⊢
  have hS : va_S A s.heap H [] := by rw [hH9]; exact va_S.rf
  have hlocs : ∃ locs : List Loc, locs = [] := ⟨_, rfl⟩
  obtain ⟨locs, hlocs⟩ := hlocs
  rw [← hlocs] at hS ⊢
  have hP : va_P D vwCl (wQ cI cZ cO x a t b q ρ ++ []) H := by rw [List.append_nil]; exact hP
  have hD : va_D A (wQ cI cZ cO x a t b q ρ ++ []) := by rw [List.append_nil]; exact hD
  refine lv_iload_n hx hb dL_of_0 rfl (lv_at hl 1 rfl) ?_
  refine lv_if_ne (tgt := 12) hx hb dL_of_1 (by decide) (fun c9 => absurd (by decide +kernel) c9) (fun _ => ?_)
  refine lv_aload_n hx hb dL_of_4 rfl (lv_at hl 0 rfl) ?_
  refine lv_iload_n hx hb dL_of_5 rfl (lv_at hl 2 rfl) ?_
  refine kCallXP_i (T := []) hP hD hS hA (vx_runV (As := [.int v]) (rest := []) ⟨hx, hb, hml, hown, hts⟩ (c_X2_command_bad l hst D cI cZ cO cJ x a t b (qK q) (qHo q) (sT (qσ q)) (sE (qσ q)) (sD (qσ q)) (sF (qσ q)) (sS (qσ q)) (sC (qσ q)) (sL (qσ q)) (sT ρ) (sE ρ) (sD ρ) (sF ρ) (sS ρ) (sC ρ) (sL ρ) (qLo q) (qSe q) (qEf q) (qgp q) (qgi q) (qam q) (qli q) (qdl q) v H.size h) (cwV (rm := rxX2_command) 1 hts gL_of_X2_command rfl rfl rfl (by decide +kernel) ⟨Nat.le_of_ble_eq_true rfl, Nat.le_of_ble_eq_true rfl⟩) (kPreVXW hK hN hX (pfP hP) (pfD hD) hS (kfree (pfD hD) hS hA) (va_recv hK (pfP hP) (ci := 2) (q0 := 0) rfl rfl)) rfl rfl hl.1 rfl (lv_room (Nat.le_of_ble_eq_true rfl)) dL_of_6 ⟨Nat.le_of_ble_eq_true rfl, Nat.le_of_ble_eq_true rfl⟩) (fun ce q9 H locs hP hD hS hce hcv hcl => ?_)
  refine vx_catch (name := "java/lang/IllegalArgumentException") hown [] ⟨0, 113, 114, 35⟩ [] (by rw [htab]; rfl) (fun z h => absurd h (List.not_mem_nil)) rfl (by decide) (hts (.classLink RL 35 "java/lang/IllegalArgumentException") (by decide +kernel)) (kXw.use xB_iae_ok hX.2.2.2.2.2.2.1 _ (by decide +kernel)) hce hcv hcl ?_
  refine lv_astore (lv' := [(4, .ref q9), (0, .ref (x 0)), (1, .int (nI 0)), (2, .int v), (3, .int w)]) hx hb dL_of_114 hl (by decide) rfl (fun ls hl => ?_)
  refine lv_ldc hx hb hown (hts (.constant RL 37 (-9000001)) (by decide +kernel)) dL_of_116 ?_
  subst hQ9
  subst hA9
  rw [List.append_nil] at hP
  exact kRetH_i ρ hx hb hr hlocks hP hS dL_of_118 rfl

set_option maxHeartbeats 4000000 in
set_option maxRecDepth 100000 in
/-- of: speed_bad -/
theorem c_L_of_speed_bad (l : Launch) (hst : l.stackTraces = false) (D : va_G) (cI cZ cO cJ : ClassId) (x a t b : Nat → Nat) (q : QS) (ρ : HS) (v w : Int32) (sz : Nat) (h : ¬ inR v (nI 0) (nI 7)) : kMH l yL_of wsL_of rxL_of D (kT cI cZ cO cJ) [.ref (x 0), .int (nI 1), .int v, .int w] (wQ cI cZ cO x a t b q ρ) (fun u : HS => wQ cI cZ cO x a t b q u) 1 6 sz ((-9000001)) := by
  refine kEnterH (cc := cL_of) (maxL := 5) (ret := some .int) (hh := [(0, 113, 114, 35)]) (by decide +kernel) rfl (Nat.le_of_ble_eq_true rfl) ?_
  intro p e s m below meth c args hx hb hr hml hts hown hlocks htab hK hN A hA9 Q hQ9 hP hD hsz hS hA hX hC ls hl
  have hl : lv_has ls 5 [(0, .ref (x 0)), (1, .int (nI 1)), (2, .int v), (3, .int w)] := hl
  obtain ⟨H, hH9⟩ : ∃ H, H = s.heap := ⟨_, rfl⟩
  rw [← hH9] at hP ⊢
  have hS : va_S A s.heap H [] := by rw [hH9]; exact va_S.rf
  have hlocs : ∃ locs : List Loc, locs = [] := ⟨_, rfl⟩
  obtain ⟨locs, hlocs⟩ := hlocs
  rw [← hlocs] at hS ⊢
  have hP : va_P D vwCl (wQ cI cZ cO x a t b q ρ ++ []) H := by rw [List.append_nil]; exact hP
  have hD : va_D A (wQ cI cZ cO x a t b q ρ ++ []) := by rw [List.append_nil]; exact hD
  refine lv_iload_n hx hb dL_of_0 rfl (lv_at hl 1 rfl) ?_
  refine lv_if_ne (tgt := 12) hx hb dL_of_1 (by decide) (fun _ => ?_) (fun c9 => absurd c9 (by decide +kernel))
  refine lv_iload_n hx hb dL_of_12 rfl (lv_at hl 1 rfl) ?_
  refine lv_iconst (v := nI 1) hx hb dL_of_13 (by decide +kernel) ?_
  refine lv_icmp_ne (tgt := 25) hx hb dL_of_14 (by decide) (fun c9 => absurd (by decide +kernel) c9) (fun _ => ?_)
  refine lv_aload_n hx hb dL_of_17 rfl (lv_at hl 0 rfl) ?_
  refine lv_iload_n hx hb dL_of_18 rfl (lv_at hl 2 rfl) ?_
  refine kCallXP_i (T := []) hP hD hS hA (vx_runV (As := [.int v]) (rest := []) ⟨hx, hb, hml, hown, hts⟩ (c_X2_speed_bad l hst D cI cZ cO cJ x a t b (qK q) (qHo q) (sT (qσ q)) (sE (qσ q)) (sD (qσ q)) (sF (qσ q)) (sS (qσ q)) (sC (qσ q)) (sL (qσ q)) (sT ρ) (sE ρ) (sD ρ) (sF ρ) (sS ρ) (sC ρ) (sL ρ) (qLo q) (qSe q) (qEf q) (qgp q) (qgi q) (qam q) (qli q) (qdl q) v H.size h) (cwV (rm := rxX2_speed) 1 hts gL_of_X2_speed rfl rfl rfl (by decide +kernel) ⟨Nat.le_of_ble_eq_true rfl, Nat.le_of_ble_eq_true rfl⟩) (kPreVXW hK hN hX (pfP hP) (pfD hD) hS (kfree (pfD hD) hS hA) (va_recv hK (pfP hP) (ci := 2) (q0 := 0) rfl rfl)) rfl rfl hl.1 rfl (lv_room (Nat.le_of_ble_eq_true rfl)) dL_of_19 ⟨Nat.le_of_ble_eq_true rfl, Nat.le_of_ble_eq_true rfl⟩) (fun ce q9 H locs hP hD hS hce hcv hcl => ?_)
  refine vx_catch (name := "java/lang/IllegalArgumentException") hown [] ⟨0, 113, 114, 35⟩ [] (by rw [htab]; rfl) (fun z h => absurd h (List.not_mem_nil)) rfl (by decide) (hts (.classLink RL 35 "java/lang/IllegalArgumentException") (by decide +kernel)) (kXw.use xB_iae_ok hX.2.2.2.2.2.2.1 _ (by decide +kernel)) hce hcv hcl ?_
  refine lv_astore (lv' := [(4, .ref q9), (0, .ref (x 0)), (1, .int (nI 1)), (2, .int v), (3, .int w)]) hx hb dL_of_114 hl (by decide) rfl (fun ls hl => ?_)
  refine lv_ldc hx hb hown (hts (.constant RL 37 (-9000001)) (by decide +kernel)) dL_of_116 ?_
  subst hQ9
  subst hA9
  rw [List.append_nil] at hP
  exact kRetH_i ρ hx hb hr hlocks hP hS dL_of_118 rfl

set_option maxHeartbeats 4000000 in
set_option maxRecDepth 100000 in
/-- of: temperature_bad -/
theorem c_L_of_temperature_bad (l : Launch) (hst : l.stackTraces = false) (D : va_G) (cI cZ cO cJ : ClassId) (x a t b : Nat → Nat) (q : QS) (ρ : HS) (v w : Int32) (sz : Nat) (h : ¬ inR v (nI 0) (nI 5)) : kMH l yL_of wsL_of rxL_of D (kT cI cZ cO cJ) [.ref (x 0), .int (nI 2), .int v, .int w] (wQ cI cZ cO x a t b q ρ) (fun u : HS => wQ cI cZ cO x a t b q u) 1 6 sz ((-9000001)) := by
  refine kEnterH (cc := cL_of) (maxL := 5) (ret := some .int) (hh := [(0, 113, 114, 35)]) (by decide +kernel) rfl (Nat.le_of_ble_eq_true rfl) ?_
  intro p e s m below meth c args hx hb hr hml hts hown hlocks htab hK hN A hA9 Q hQ9 hP hD hsz hS hA hX hC ls hl
  have hl : lv_has ls 5 [(0, .ref (x 0)), (1, .int (nI 2)), (2, .int v), (3, .int w)] := hl
  obtain ⟨H, hH9⟩ : ∃ H, H = s.heap := ⟨_, rfl⟩
  rw [← hH9] at hP ⊢
  have hS : va_S A s.heap H [] := by rw [hH9]; exact va_S.rf
  have hlocs : ∃ locs : List Loc, locs = [] := ⟨_, rfl⟩
  obtain ⟨locs, hlocs⟩ := hlocs
  rw [← hlocs] at hS ⊢
  have hP : va_P D vwCl (wQ cI cZ cO x a t b q ρ ++ []) H := by rw [List.append_nil]; exact hP
  have hD : va_D A (wQ cI cZ cO x a t b q ρ ++ []) := by rw [List.append_nil]; exact hD
  refine lv_iload_n hx hb dL_of_0 rfl (lv_at hl 1 rfl) ?_
  refine lv_if_ne (tgt := 12) hx hb dL_of_1 (by decide) (fun _ => ?_) (fun c9 => absurd c9 (by decide +kernel))
  refine lv_iload_n hx hb dL_of_12 rfl (lv_at hl 1 rfl) ?_
  refine lv_iconst (v := nI 1) hx hb dL_of_13 (by decide +kernel) ?_
  refine lv_icmp_ne (tgt := 25) hx hb dL_of_14 (by decide) (fun _ => ?_) (fun c9 => absurd c9 (by decide +kernel))
  refine lv_iload_n hx hb dL_of_25 rfl (lv_at hl 1 rfl) ?_
  refine lv_iconst (v := nI 2) hx hb dL_of_26 (by decide +kernel) ?_
  refine lv_icmp_ne (tgt := 38) hx hb dL_of_27 (by decide) (fun c9 => absurd (by decide +kernel) c9) (fun _ => ?_)
  refine lv_aload_n hx hb dL_of_30 rfl (lv_at hl 0 rfl) ?_
  refine lv_iload_n hx hb dL_of_31 rfl (lv_at hl 2 rfl) ?_
  refine kCallXP_i (T := []) hP hD hS hA (vx_runV (As := [.int v]) (rest := []) ⟨hx, hb, hml, hown, hts⟩ (c_X2_temperature_bad l hst D cI cZ cO cJ x a t b (qK q) (qHo q) (sT (qσ q)) (sE (qσ q)) (sD (qσ q)) (sF (qσ q)) (sS (qσ q)) (sC (qσ q)) (sL (qσ q)) (sT ρ) (sE ρ) (sD ρ) (sF ρ) (sS ρ) (sC ρ) (sL ρ) (qLo q) (qSe q) (qEf q) (qgp q) (qgi q) (qam q) (qli q) (qdl q) v H.size h) (cwV (rm := rxX2_temperature) 1 hts gL_of_X2_temperature rfl rfl rfl (by decide +kernel) ⟨Nat.le_of_ble_eq_true rfl, Nat.le_of_ble_eq_true rfl⟩) (kPreVXW hK hN hX (pfP hP) (pfD hD) hS (kfree (pfD hD) hS hA) (va_recv hK (pfP hP) (ci := 2) (q0 := 0) rfl rfl)) rfl rfl hl.1 rfl (lv_room (Nat.le_of_ble_eq_true rfl)) dL_of_32 ⟨Nat.le_of_ble_eq_true rfl, Nat.le_of_ble_eq_true rfl⟩) (fun ce q9 H locs hP hD hS hce hcv hcl => ?_)
  refine vx_catch (name := "java/lang/IllegalArgumentException") hown [] ⟨0, 113, 114, 35⟩ [] (by rw [htab]; rfl) (fun z h => absurd h (List.not_mem_nil)) rfl (by decide) (hts (.classLink RL 35 "java/lang/IllegalArgumentException") (by decide +kernel)) (kXw.use xB_iae_ok hX.2.2.2.2.2.2.1 _ (by decide +kernel)) hce hcv hcl ?_
  refine lv_astore (lv' := [(4, .ref q9), (0, .ref (x 0)), (1, .int (nI 2)), (2, .int v), (3, .int w)]) hx hb dL_of_114 hl (by decide) rfl (fun ls hl => ?_)
  refine lv_ldc hx hb hown (hts (.constant RL 37 (-9000001)) (by decide +kernel)) dL_of_116 ?_
  subst hQ9
  subst hA9
  rw [List.append_nil] at hP
  exact kRetH_i ρ hx hb hr hlocks hP hS dL_of_118 rfl

set_option maxHeartbeats 4000000 in
set_option maxRecDepth 100000 in
/-- of: demand_bad -/
theorem c_L_of_demand_bad (l : Launch) (hst : l.stackTraces = false) (D : va_G) (cI cZ cO cJ : ClassId) (x a t b : Nat → Nat) (q : QS) (ρ : HS) (v w : Int32) (sz : Nat) (h : ¬ inR v (nI 0) (nI 5)) : kMH l yL_of wsL_of rxL_of D (kT cI cZ cO cJ) [.ref (x 0), .int (nI 3), .int v, .int w] (wQ cI cZ cO x a t b q ρ) (fun u : HS => wQ cI cZ cO x a t b q u) 1 6 sz ((-9000001)) := by
  refine kEnterH (cc := cL_of) (maxL := 5) (ret := some .int) (hh := [(0, 113, 114, 35)]) (by decide +kernel) rfl (Nat.le_of_ble_eq_true rfl) ?_
  intro p e s m below meth c args hx hb hr hml hts hown hlocks htab hK hN A hA9 Q hQ9 hP hD hsz hS hA hX hC ls hl
  have hl : lv_has ls 5 [(0, .ref (x 0)), (1, .int (nI 3)), (2, .int v), (3, .int w)] := hl
  obtain ⟨H, hH9⟩ : ∃ H, H = s.heap := ⟨_, rfl⟩
  rw [← hH9] at hP ⊢
  have hS : va_S A s.heap H [] := by rw [hH9]; exact va_S.rf
  have hlocs : ∃ locs : List Loc, locs = [] := ⟨_, rfl⟩
  obtain ⟨locs, hlocs⟩ := hlocs
  rw [← hlocs] at hS ⊢
  have hP : va_P D vwCl (wQ cI cZ cO x a t b q ρ ++ []) H := by rw [List.append_nil]; exact hP
  have hD : va_D A (wQ cI cZ cO x a t b q ρ ++ []) := by rw [List.append_nil]; exact hD
  refine lv_iload_n hx hb dL_of_0 rfl (lv_at hl 1 rfl) ?_
  refine lv_if_ne (tgt := 12) hx hb dL_of_1 (by decide) (fun _ => ?_) (fun c9 => absurd c9 (by decide +kernel))
  refine lv_iload_n hx hb dL_of_12 rfl (lv_at hl 1 rfl) ?_
  refine lv_iconst (v := nI 1) hx hb dL_of_13 (by decide +kernel) ?_
  refine lv_icmp_ne (tgt := 25) hx hb dL_of_14 (by decide) (fun _ => ?_) (fun c9 => absurd c9 (by decide +kernel))
  refine lv_iload_n hx hb dL_of_25 rfl (lv_at hl 1 rfl) ?_
  refine lv_iconst (v := nI 2) hx hb dL_of_26 (by decide +kernel) ?_
  refine lv_icmp_ne (tgt := 38) hx hb dL_of_27 (by decide) (fun _ => ?_) (fun c9 => absurd c9 (by decide +kernel))
  refine lv_iload_n hx hb dL_of_38 rfl (lv_at hl 1 rfl) ?_
  refine lv_iconst (v := nI 3) hx hb dL_of_39 (by decide +kernel) ?_
  refine lv_icmp_ne (tgt := 51) hx hb dL_of_40 (by decide) (fun c9 => absurd (by decide +kernel) c9) (fun _ => ?_)
  refine lv_aload_n hx hb dL_of_43 rfl (lv_at hl 0 rfl) ?_
  refine lv_iload_n hx hb dL_of_44 rfl (lv_at hl 2 rfl) ?_
  refine kCallXP_i (T := []) hP hD hS hA (vx_runV (As := [.int v]) (rest := []) ⟨hx, hb, hml, hown, hts⟩ (c_X2_demand_bad l hst D cI cZ cO cJ x a t b (qK q) (qHo q) (sT (qσ q)) (sE (qσ q)) (sD (qσ q)) (sF (qσ q)) (sS (qσ q)) (sC (qσ q)) (sL (qσ q)) (sT ρ) (sE ρ) (sD ρ) (sF ρ) (sS ρ) (sC ρ) (sL ρ) (qLo q) (qSe q) (qEf q) (qgp q) (qgi q) (qam q) (qli q) (qdl q) v H.size h) (cwV (rm := rxX2_demand) 1 hts gL_of_X2_demand rfl rfl rfl (by decide +kernel) ⟨Nat.le_of_ble_eq_true rfl, Nat.le_of_ble_eq_true rfl⟩) (kPreVXW hK hN hX (pfP hP) (pfD hD) hS (kfree (pfD hD) hS hA) (va_recv hK (pfP hP) (ci := 2) (q0 := 0) rfl rfl)) rfl rfl hl.1 rfl (lv_room (Nat.le_of_ble_eq_true rfl)) dL_of_45 ⟨Nat.le_of_ble_eq_true rfl, Nat.le_of_ble_eq_true rfl⟩) (fun ce q9 H locs hP hD hS hce hcv hcl => ?_)
  refine vx_catch (name := "java/lang/IllegalArgumentException") hown [] ⟨0, 113, 114, 35⟩ [] (by rw [htab]; rfl) (fun z h => absurd h (List.not_mem_nil)) rfl (by decide) (hts (.classLink RL 35 "java/lang/IllegalArgumentException") (by decide +kernel)) (kXw.use xB_iae_ok hX.2.2.2.2.2.2.1 _ (by decide +kernel)) hce hcv hcl ?_
  refine lv_astore (lv' := [(4, .ref q9), (0, .ref (x 0)), (1, .int (nI 3)), (2, .int v), (3, .int w)]) hx hb dL_of_114 hl (by decide) rfl (fun ls hl => ?_)
  refine lv_ldc hx hb hown (hts (.constant RL 37 (-9000001)) (by decide +kernel)) dL_of_116 ?_
  subst hQ9
  subst hA9
  rw [List.append_nil] at hP
  exact kRetH_i ρ hx hb hr hlocks hP hS dL_of_118 rfl

set_option maxHeartbeats 4000000 in
set_option maxRecDepth 100000 in
/-- of: errors_bad -/
theorem c_L_of_errors_bad (l : Launch) (hst : l.stackTraces = false) (D : va_G) (cI cZ cO cJ : ClassId) (x a t b : Nat → Nat) (q : QS) (ρ : HS) (v w : Int32) (sz : Nat) (h : ¬ inR v (nI 0) (nI 5)) : kMH l yL_of wsL_of rxL_of D (kT cI cZ cO cJ) [.ref (x 0), .int (nI 4), .int v, .int w] (wQ cI cZ cO x a t b q ρ) (fun u : HS => wQ cI cZ cO x a t b q u) 1 6 sz ((-9000001)) := by
  refine kEnterH (cc := cL_of) (maxL := 5) (ret := some .int) (hh := [(0, 113, 114, 35)]) (by decide +kernel) rfl (Nat.le_of_ble_eq_true rfl) ?_
  intro p e s m below meth c args hx hb hr hml hts hown hlocks htab hK hN A hA9 Q hQ9 hP hD hsz hS hA hX hC ls hl
  have hl : lv_has ls 5 [(0, .ref (x 0)), (1, .int (nI 4)), (2, .int v), (3, .int w)] := hl
  obtain ⟨H, hH9⟩ : ∃ H, H = s.heap := ⟨_, rfl⟩
  rw [← hH9] at hP ⊢
  have hS : va_S A s.heap H [] := by rw [hH9]; exact va_S.rf
  have hlocs : ∃ locs : List Loc, locs = [] := ⟨_, rfl⟩
  obtain ⟨locs, hlocs⟩ := hlocs
  rw [← hlocs] at hS ⊢
  have hP : va_P D vwCl (wQ cI cZ cO x a t b q ρ ++ []) H := by rw [List.append_nil]; exact hP
  have hD : va_D A (wQ cI cZ cO x a t b q ρ ++ []) := by rw [List.append_nil]; exact hD
  refine lv_iload_n hx hb dL_of_0 rfl (lv_at hl 1 rfl) ?_
  refine lv_if_ne (tgt := 12) hx hb dL_of_1 (by decide) (fun _ => ?_) (fun c9 => absurd c9 (by decide +kernel))
  refine lv_iload_n hx hb dL_of_12 rfl (lv_at hl 1 rfl) ?_
  refine lv_iconst (v := nI 1) hx hb dL_of_13 (by decide +kernel) ?_
  refine lv_icmp_ne (tgt := 25) hx hb dL_of_14 (by decide) (fun _ => ?_) (fun c9 => absurd c9 (by decide +kernel))
  refine lv_iload_n hx hb dL_of_25 rfl (lv_at hl 1 rfl) ?_
  refine lv_iconst (v := nI 2) hx hb dL_of_26 (by decide +kernel) ?_
  refine lv_icmp_ne (tgt := 38) hx hb dL_of_27 (by decide) (fun _ => ?_) (fun c9 => absurd c9 (by decide +kernel))
  refine lv_iload_n hx hb dL_of_38 rfl (lv_at hl 1 rfl) ?_
  refine lv_iconst (v := nI 3) hx hb dL_of_39 (by decide +kernel) ?_
  refine lv_icmp_ne (tgt := 51) hx hb dL_of_40 (by decide) (fun _ => ?_) (fun c9 => absurd c9 (by decide +kernel))
  refine lv_iload_n hx hb dL_of_51 rfl (lv_at hl 1 rfl) ?_
  refine lv_iconst (v := nI 4) hx hb dL_of_52 (by decide +kernel) ?_
  refine lv_icmp_ne (tgt := 64) hx hb dL_of_53 (by decide) (fun c9 => absurd (by decide +kernel) c9) (fun _ => ?_)
  refine lv_aload_n hx hb dL_of_56 rfl (lv_at hl 0 rfl) ?_
  refine lv_iload_n hx hb dL_of_57 rfl (lv_at hl 2 rfl) ?_
  refine kCallXP_i (T := []) hP hD hS hA (vx_runV (As := [.int v]) (rest := []) ⟨hx, hb, hml, hown, hts⟩ (c_X2_errors_bad l hst D cI cZ cO cJ x a t b (qK q) (qHo q) (sT (qσ q)) (sE (qσ q)) (sD (qσ q)) (sF (qσ q)) (sS (qσ q)) (sC (qσ q)) (sL (qσ q)) (sT ρ) (sE ρ) (sD ρ) (sF ρ) (sS ρ) (sC ρ) (sL ρ) (qLo q) (qSe q) (qEf q) (qgp q) (qgi q) (qam q) (qli q) (qdl q) v H.size h) (cwV (rm := rxX2_errors) 1 hts gL_of_X2_errors rfl rfl rfl (by decide +kernel) ⟨Nat.le_of_ble_eq_true rfl, Nat.le_of_ble_eq_true rfl⟩) (kPreVXW hK hN hX (pfP hP) (pfD hD) hS (kfree (pfD hD) hS hA) (va_recv hK (pfP hP) (ci := 2) (q0 := 0) rfl rfl)) rfl rfl hl.1 rfl (lv_room (Nat.le_of_ble_eq_true rfl)) dL_of_58 ⟨Nat.le_of_ble_eq_true rfl, Nat.le_of_ble_eq_true rfl⟩) (fun ce q9 H locs hP hD hS hce hcv hcl => ?_)
  refine vx_catch (name := "java/lang/IllegalArgumentException") hown [] ⟨0, 113, 114, 35⟩ [] (by rw [htab]; rfl) (fun z h => absurd h (List.not_mem_nil)) rfl (by decide) (hts (.classLink RL 35 "java/lang/IllegalArgumentException") (by decide +kernel)) (kXw.use xB_iae_ok hX.2.2.2.2.2.2.1 _ (by decide +kernel)) hce hcv hcl ?_
  refine lv_astore (lv' := [(4, .ref q9), (0, .ref (x 0)), (1, .int (nI 4)), (2, .int v), (3, .int w)]) hx hb dL_of_114 hl (by decide) rfl (fun ls hl => ?_)
  refine lv_ldc hx hb hown (hts (.constant RL 37 (-9000001)) (by decide +kernel)) dL_of_116 ?_
  subst hQ9
  subst hA9
  rw [List.append_nil] at hP
  exact kRetH_i ρ hx hb hr hlocks hP hS dL_of_118 rfl

set_option maxHeartbeats 4000000 in
set_option maxRecDepth 100000 in
/-- of: hotMinutes_bad -/
theorem c_L_of_hotMinutes_bad (l : Launch) (hst : l.stackTraces = false) (D : va_G) (cI cZ cO cJ : ClassId) (x a t b : Nat → Nat) (q : QS) (ρ : HS) (v w : Int32) (sz : Nat) (h : ¬ inR v (nI 0) (nI 5)) : kMH l yL_of wsL_of rxL_of D (kT cI cZ cO cJ) [.ref (x 0), .int (nI 5), .int v, .int w] (wQ cI cZ cO x a t b q ρ) (fun u : HS => wQ cI cZ cO x a t b q u) 1 6 sz ((-9000001)) := by
  refine kEnterH (cc := cL_of) (maxL := 5) (ret := some .int) (hh := [(0, 113, 114, 35)]) (by decide +kernel) rfl (Nat.le_of_ble_eq_true rfl) ?_
  intro p e s m below meth c args hx hb hr hml hts hown hlocks htab hK hN A hA9 Q hQ9 hP hD hsz hS hA hX hC ls hl
  have hl : lv_has ls 5 [(0, .ref (x 0)), (1, .int (nI 5)), (2, .int v), (3, .int w)] := hl
  obtain ⟨H, hH9⟩ : ∃ H, H = s.heap := ⟨_, rfl⟩
  rw [← hH9] at hP ⊢
  have hS : va_S A s.heap H [] := by rw [hH9]; exact va_S.rf
  have hlocs : ∃ locs : List Loc, locs = [] := ⟨_, rfl⟩
  obtain ⟨locs, hlocs⟩ := hlocs
  rw [← hlocs] at hS ⊢
  have hP : va_P D vwCl (wQ cI cZ cO x a t b q ρ ++ []) H := by rw [List.append_nil]; exact hP
  have hD : va_D A (wQ cI cZ cO x a t b q ρ ++ []) := by rw [List.append_nil]; exact hD
  refine lv_iload_n hx hb dL_of_0 rfl (lv_at hl 1 rfl) ?_
  refine lv_if_ne (tgt := 12) hx hb dL_of_1 (by decide) (fun _ => ?_) (fun c9 => absurd c9 (by decide +kernel))
  refine lv_iload_n hx hb dL_of_12 rfl (lv_at hl 1 rfl) ?_
  refine lv_iconst (v := nI 1) hx hb dL_of_13 (by decide +kernel) ?_
  refine lv_icmp_ne (tgt := 25) hx hb dL_of_14 (by decide) (fun _ => ?_) (fun c9 => absurd c9 (by decide +kernel))
  refine lv_iload_n hx hb dL_of_25 rfl (lv_at hl 1 rfl) ?_
  refine lv_iconst (v := nI 2) hx hb dL_of_26 (by decide +kernel) ?_
  refine lv_icmp_ne (tgt := 38) hx hb dL_of_27 (by decide) (fun _ => ?_) (fun c9 => absurd c9 (by decide +kernel))
  refine lv_iload_n hx hb dL_of_38 rfl (lv_at hl 1 rfl) ?_
  refine lv_iconst (v := nI 3) hx hb dL_of_39 (by decide +kernel) ?_
  refine lv_icmp_ne (tgt := 51) hx hb dL_of_40 (by decide) (fun _ => ?_) (fun c9 => absurd c9 (by decide +kernel))
  refine lv_iload_n hx hb dL_of_51 rfl (lv_at hl 1 rfl) ?_
  refine lv_iconst (v := nI 4) hx hb dL_of_52 (by decide +kernel) ?_
  refine lv_icmp_ne (tgt := 64) hx hb dL_of_53 (by decide) (fun _ => ?_) (fun c9 => absurd c9 (by decide +kernel))
  refine lv_iload_n hx hb dL_of_64 rfl (lv_at hl 1 rfl) ?_
  refine lv_iconst (v := nI 5) hx hb dL_of_65 (by decide +kernel) ?_
  refine lv_icmp_ne (tgt := 77) hx hb dL_of_66 (by decide) (fun c9 => absurd (by decide +kernel) c9) (fun _ => ?_)
  refine lv_aload_n hx hb dL_of_69 rfl (lv_at hl 0 rfl) ?_
  refine lv_iload_n hx hb dL_of_70 rfl (lv_at hl 2 rfl) ?_
  refine kCallXP_i (T := []) hP hD hS hA (vx_runV (As := [.int v]) (rest := []) ⟨hx, hb, hml, hown, hts⟩ (c_X2_hotMinutes_bad l hst D cI cZ cO cJ x a t b (qK q) (qHo q) (sT (qσ q)) (sE (qσ q)) (sD (qσ q)) (sF (qσ q)) (sS (qσ q)) (sC (qσ q)) (sL (qσ q)) (sT ρ) (sE ρ) (sD ρ) (sF ρ) (sS ρ) (sC ρ) (sL ρ) (qLo q) (qSe q) (qEf q) (qgp q) (qgi q) (qam q) (qli q) (qdl q) v H.size h) (cwV (rm := rxX2_hotMinutes) 1 hts gL_of_X2_hotMinutes rfl rfl rfl (by decide +kernel) ⟨Nat.le_of_ble_eq_true rfl, Nat.le_of_ble_eq_true rfl⟩) (kPreVXW hK hN hX (pfP hP) (pfD hD) hS (kfree (pfD hD) hS hA) (va_recv hK (pfP hP) (ci := 2) (q0 := 0) rfl rfl)) rfl rfl hl.1 rfl (lv_room (Nat.le_of_ble_eq_true rfl)) dL_of_71 ⟨Nat.le_of_ble_eq_true rfl, Nat.le_of_ble_eq_true rfl⟩) (fun ce q9 H locs hP hD hS hce hcv hcl => ?_)
  refine vx_catch (name := "java/lang/IllegalArgumentException") hown [] ⟨0, 113, 114, 35⟩ [] (by rw [htab]; rfl) (fun z h => absurd h (List.not_mem_nil)) rfl (by decide) (hts (.classLink RL 35 "java/lang/IllegalArgumentException") (by decide +kernel)) (kXw.use xB_iae_ok hX.2.2.2.2.2.2.1 _ (by decide +kernel)) hce hcv hcl ?_
  refine lv_astore (lv' := [(4, .ref q9), (0, .ref (x 0)), (1, .int (nI 5)), (2, .int v), (3, .int w)]) hx hb dL_of_114 hl (by decide) rfl (fun ls hl => ?_)
  refine lv_ldc hx hb hown (hts (.constant RL 37 (-9000001)) (by decide +kernel)) dL_of_116 ?_
  subst hQ9
  subst hA9
  rw [List.append_nil] at hP
  exact kRetH_i ρ hx hb hr hlocks hP hS dL_of_118 rfl

set_option maxHeartbeats 4000000 in
set_option maxRecDepth 100000 in
/-- of: expected_bad -/
theorem c_L_of_expected_bad (l : Launch) (hst : l.stackTraces = false) (D : va_G) (cI cZ cO cJ : ClassId) (x a t b : Nat → Nat) (q : QS) (ρ : HS) (v w : Int32) (sz : Nat) (h : ¬ (inR v (nI 0) (nI 5) ∧ inR w (nI 1) (nI 60))) : kMH l yL_of wsL_of rxL_of D (kT cI cZ cO cJ) [.ref (x 0), .int (nI 6), .int v, .int w] (wQ cI cZ cO x a t b q ρ) (fun u : HS => wQ cI cZ cO x a t b q u) 1 6 sz ((-9000001)) := by
  refine kEnterH (cc := cL_of) (maxL := 5) (ret := some .int) (hh := [(0, 113, 114, 35)]) (by decide +kernel) rfl (Nat.le_of_ble_eq_true rfl) ?_
  intro p e s m below meth c args hx hb hr hml hts hown hlocks htab hK hN A hA9 Q hQ9 hP hD hsz hS hA hX hC ls hl
  have hl : lv_has ls 5 [(0, .ref (x 0)), (1, .int (nI 6)), (2, .int v), (3, .int w)] := hl
  obtain ⟨H, hH9⟩ : ∃ H, H = s.heap := ⟨_, rfl⟩
  rw [← hH9] at hP ⊢
  have hS : va_S A s.heap H [] := by rw [hH9]; exact va_S.rf
  have hlocs : ∃ locs : List Loc, locs = [] := ⟨_, rfl⟩
  obtain ⟨locs, hlocs⟩ := hlocs
  rw [← hlocs] at hS ⊢
  have hP : va_P D vwCl (wQ cI cZ cO x a t b q ρ ++ []) H := by rw [List.append_nil]; exact hP
  have hD : va_D A (wQ cI cZ cO x a t b q ρ ++ []) := by rw [List.append_nil]; exact hD
  refine lv_iload_n hx hb dL_of_0 rfl (lv_at hl 1 rfl) ?_
  refine lv_if_ne (tgt := 12) hx hb dL_of_1 (by decide) (fun _ => ?_) (fun c9 => absurd c9 (by decide +kernel))
  refine lv_iload_n hx hb dL_of_12 rfl (lv_at hl 1 rfl) ?_
  refine lv_iconst (v := nI 1) hx hb dL_of_13 (by decide +kernel) ?_
  refine lv_icmp_ne (tgt := 25) hx hb dL_of_14 (by decide) (fun _ => ?_) (fun c9 => absurd c9 (by decide +kernel))
  refine lv_iload_n hx hb dL_of_25 rfl (lv_at hl 1 rfl) ?_
  refine lv_iconst (v := nI 2) hx hb dL_of_26 (by decide +kernel) ?_
  refine lv_icmp_ne (tgt := 38) hx hb dL_of_27 (by decide) (fun _ => ?_) (fun c9 => absurd c9 (by decide +kernel))
  refine lv_iload_n hx hb dL_of_38 rfl (lv_at hl 1 rfl) ?_
  refine lv_iconst (v := nI 3) hx hb dL_of_39 (by decide +kernel) ?_
  refine lv_icmp_ne (tgt := 51) hx hb dL_of_40 (by decide) (fun _ => ?_) (fun c9 => absurd c9 (by decide +kernel))
  refine lv_iload_n hx hb dL_of_51 rfl (lv_at hl 1 rfl) ?_
  refine lv_iconst (v := nI 4) hx hb dL_of_52 (by decide +kernel) ?_
  refine lv_icmp_ne (tgt := 64) hx hb dL_of_53 (by decide) (fun _ => ?_) (fun c9 => absurd c9 (by decide +kernel))
  refine lv_iload_n hx hb dL_of_64 rfl (lv_at hl 1 rfl) ?_
  refine lv_iconst (v := nI 5) hx hb dL_of_65 (by decide +kernel) ?_
  refine lv_icmp_ne (tgt := 77) hx hb dL_of_66 (by decide) (fun _ => ?_) (fun c9 => absurd c9 (by decide +kernel))
  refine lv_iload_n hx hb dL_of_77 rfl (lv_at hl 1 rfl) ?_
  refine lv_bipush (v := nI 6) hx hb dL_of_78 (by decide +kernel) ?_
  refine lv_icmp_ne (tgt := 92) hx hb dL_of_80 (by decide) (fun c9 => absurd (by decide +kernel) c9) (fun _ => ?_)
  refine lv_aload_n hx hb dL_of_83 rfl (lv_at hl 0 rfl) ?_
  refine lv_iload_n hx hb dL_of_84 rfl (lv_at hl 2 rfl) ?_
  refine lv_iload_n hx hb dL_of_85 rfl (lv_at hl 3 rfl) ?_
  refine kCallXP_i (T := []) hP hD hS hA (vx_runV (As := [.int v, .int w]) (rest := []) ⟨hx, hb, hml, hown, hts⟩ (c_X2_expected_bad l hst D cI cZ cO cJ x a t b (qK q) (qHo q) (sT (qσ q)) (sE (qσ q)) (sD (qσ q)) (sF (qσ q)) (sS (qσ q)) (sC (qσ q)) (sL (qσ q)) (sT ρ) (sE ρ) (sD ρ) (sF ρ) (sS ρ) (sC ρ) (sL ρ) (qLo q) (qSe q) (qEf q) (qgp q) (qgi q) (qam q) (qli q) (qdl q) v w H.size h) (cwV (rm := rxX2_expected) 2 hts gL_of_X2_expected rfl rfl rfl (by decide +kernel) ⟨Nat.le_of_ble_eq_true rfl, Nat.le_of_ble_eq_true rfl⟩) (kPreVXW hK hN hX (pfP hP) (pfD hD) hS (kfree (pfD hD) hS hA) (va_recv hK (pfP hP) (ci := 2) (q0 := 0) rfl rfl)) rfl rfl hl.1 rfl (lv_room (Nat.le_of_ble_eq_true rfl)) dL_of_86 ⟨Nat.le_of_ble_eq_true rfl, Nat.le_of_ble_eq_true rfl⟩) (fun ce q9 H locs hP hD hS hce hcv hcl => ?_)
  refine vx_catch (name := "java/lang/IllegalArgumentException") hown [] ⟨0, 113, 114, 35⟩ [] (by rw [htab]; rfl) (fun z h => absurd h (List.not_mem_nil)) rfl (by decide) (hts (.classLink RL 35 "java/lang/IllegalArgumentException") (by decide +kernel)) (kXw.use xB_iae_ok hX.2.2.2.2.2.2.1 _ (by decide +kernel)) hce hcv hcl ?_
  refine lv_astore (lv' := [(4, .ref q9), (0, .ref (x 0)), (1, .int (nI 6)), (2, .int v), (3, .int w)]) hx hb dL_of_114 hl (by decide) rfl (fun ls hl => ?_)
  refine lv_ldc hx hb hown (hts (.constant RL 37 (-9000001)) (by decide +kernel)) dL_of_116 ?_
  subst hQ9
  subst hA9
  rw [List.append_nil] at hP
  exact kRetH_i ρ hx hb hr hlocks hP hS dL_of_118 rfl

set_option maxHeartbeats 4000000 in
set_option maxRecDepth 100000 in
/-- of: critical_bad -/
theorem c_L_of_critical_bad (l : Launch) (hst : l.stackTraces = false) (D : va_G) (cI cZ cO cJ : ClassId) (x a t b : Nat → Nat) (q : QS) (ρ : HS) (v w : Int32) (sz : Nat) (h : ¬ (inR v (nI 0) (nI 5) ∧ inR w (nI 1) (nI 60))) : kMH l yL_of wsL_of rxL_of D (kT cI cZ cO cJ) [.ref (x 0), .int (nI 7), .int v, .int w] (wQ cI cZ cO x a t b q ρ) (fun u : HS => wQ cI cZ cO x a t b q u) 1 6 sz ((-9000001)) := by
  refine kEnterH (cc := cL_of) (maxL := 5) (ret := some .int) (hh := [(0, 113, 114, 35)]) (by decide +kernel) rfl (Nat.le_of_ble_eq_true rfl) ?_
  intro p e s m below meth c args hx hb hr hml hts hown hlocks htab hK hN A hA9 Q hQ9 hP hD hsz hS hA hX hC ls hl
  have hl : lv_has ls 5 [(0, .ref (x 0)), (1, .int (nI 7)), (2, .int v), (3, .int w)] := hl
  obtain ⟨H, hH9⟩ : ∃ H, H = s.heap := ⟨_, rfl⟩
  rw [← hH9] at hP ⊢
  have hS : va_S A s.heap H [] := by rw [hH9]; exact va_S.rf
  have hlocs : ∃ locs : List Loc, locs = [] := ⟨_, rfl⟩
  obtain ⟨locs, hlocs⟩ := hlocs
  rw [← hlocs] at hS ⊢
  have hP : va_P D vwCl (wQ cI cZ cO x a t b q ρ ++ []) H := by rw [List.append_nil]; exact hP
  have hD : va_D A (wQ cI cZ cO x a t b q ρ ++ []) := by rw [List.append_nil]; exact hD
  refine lv_iload_n hx hb dL_of_0 rfl (lv_at hl 1 rfl) ?_
  refine lv_if_ne (tgt := 12) hx hb dL_of_1 (by decide) (fun _ => ?_) (fun c9 => absurd c9 (by decide +kernel))
  refine lv_iload_n hx hb dL_of_12 rfl (lv_at hl 1 rfl) ?_
  refine lv_iconst (v := nI 1) hx hb dL_of_13 (by decide +kernel) ?_
  refine lv_icmp_ne (tgt := 25) hx hb dL_of_14 (by decide) (fun _ => ?_) (fun c9 => absurd c9 (by decide +kernel))
  refine lv_iload_n hx hb dL_of_25 rfl (lv_at hl 1 rfl) ?_
  refine lv_iconst (v := nI 2) hx hb dL_of_26 (by decide +kernel) ?_
  refine lv_icmp_ne (tgt := 38) hx hb dL_of_27 (by decide) (fun _ => ?_) (fun c9 => absurd c9 (by decide +kernel))
  refine lv_iload_n hx hb dL_of_38 rfl (lv_at hl 1 rfl) ?_
  refine lv_iconst (v := nI 3) hx hb dL_of_39 (by decide +kernel) ?_
  refine lv_icmp_ne (tgt := 51) hx hb dL_of_40 (by decide) (fun _ => ?_) (fun c9 => absurd c9 (by decide +kernel))
  refine lv_iload_n hx hb dL_of_51 rfl (lv_at hl 1 rfl) ?_
  refine lv_iconst (v := nI 4) hx hb dL_of_52 (by decide +kernel) ?_
  refine lv_icmp_ne (tgt := 64) hx hb dL_of_53 (by decide) (fun _ => ?_) (fun c9 => absurd c9 (by decide +kernel))
  refine lv_iload_n hx hb dL_of_64 rfl (lv_at hl 1 rfl) ?_
  refine lv_iconst (v := nI 5) hx hb dL_of_65 (by decide +kernel) ?_
  refine lv_icmp_ne (tgt := 77) hx hb dL_of_66 (by decide) (fun _ => ?_) (fun c9 => absurd c9 (by decide +kernel))
  refine lv_iload_n hx hb dL_of_77 rfl (lv_at hl 1 rfl) ?_
  refine lv_bipush (v := nI 6) hx hb dL_of_78 (by decide +kernel) ?_
  refine lv_icmp_ne (tgt := 92) hx hb dL_of_80 (by decide) (fun _ => ?_) (fun c9 => absurd c9 (by decide +kernel))
  refine lv_iload_n hx hb dL_of_92 rfl (lv_at hl 1 rfl) ?_
  refine lv_bipush (v := nI 7) hx hb dL_of_93 (by decide +kernel) ?_
  refine lv_icmp_ne (tgt := 107) hx hb dL_of_95 (by decide) (fun c9 => absurd (by decide +kernel) c9) (fun _ => ?_)
  refine lv_aload_n hx hb dL_of_98 rfl (lv_at hl 0 rfl) ?_
  refine lv_iload_n hx hb dL_of_99 rfl (lv_at hl 2 rfl) ?_
  refine lv_iload_n hx hb dL_of_100 rfl (lv_at hl 3 rfl) ?_
  refine kCallXP_i (T := []) hP hD hS hA (vx_runV (As := [.int v, .int w]) (rest := []) ⟨hx, hb, hml, hown, hts⟩ (c_X2_critical_bad l hst D cI cZ cO cJ x a t b (qK q) (qHo q) (sT (qσ q)) (sE (qσ q)) (sD (qσ q)) (sF (qσ q)) (sS (qσ q)) (sC (qσ q)) (sL (qσ q)) (sT ρ) (sE ρ) (sD ρ) (sF ρ) (sS ρ) (sC ρ) (sL ρ) (qLo q) (qSe q) (qEf q) (qgp q) (qgi q) (qam q) (qli q) (qdl q) v w H.size h) (cwV (rm := rxX2_critical) 2 hts gL_of_X2_critical rfl rfl rfl (by decide +kernel) ⟨Nat.le_of_ble_eq_true rfl, Nat.le_of_ble_eq_true rfl⟩) (kPreVXW hK hN hX (pfP hP) (pfD hD) hS (kfree (pfD hD) hS hA) (va_recv hK (pfP hP) (ci := 2) (q0 := 0) rfl rfl)) rfl rfl hl.1 rfl (lv_room (Nat.le_of_ble_eq_true rfl)) dL_of_101 ⟨Nat.le_of_ble_eq_true rfl, Nat.le_of_ble_eq_true rfl⟩) (fun ce q9 H locs hP hD hS hce hcv hcl => ?_)
  refine vx_catch (name := "java/lang/IllegalArgumentException") hown [] ⟨0, 113, 114, 35⟩ [] (by rw [htab]; rfl) (fun z h => absurd h (List.not_mem_nil)) rfl (by decide) (hts (.classLink RL 35 "java/lang/IllegalArgumentException") (by decide +kernel)) (kXw.use xB_iae_ok hX.2.2.2.2.2.2.1 _ (by decide +kernel)) hce hcv hcl ?_
  refine lv_astore (lv' := [(4, .ref q9), (0, .ref (x 0)), (1, .int (nI 7)), (2, .int v), (3, .int w)]) hx hb dL_of_114 hl (by decide) rfl (fun ls hl => ?_)
  refine lv_ldc hx hb hown (hts (.constant RL 37 (-9000001)) (by decide +kernel)) dL_of_116 ?_
  subst hQ9
  subst hA9
  rw [List.append_nil] at hP
  exact kRetH_i ρ hx hb hr hlocks hP hS dL_of_118 rfl

set_option maxHeartbeats 4000000 in
set_option maxRecDepth 100000 in
/-- of: margin_bad -/
theorem c_L_of_margin_bad (l : Launch) (hst : l.stackTraces = false) (D : va_G) (cI cZ cO cJ : ClassId) (x a t b : Nat → Nat) (q : QS) (ρ : HS) (v w : Int32) (sz : Nat) (h : ¬ (inR v (nI 0) (nI 5) ∧ inR w (nI 1) (nI 60))) : kMH l yL_of wsL_of rxL_of D (kT cI cZ cO cJ) [.ref (x 0), .int (nI 8), .int v, .int w] (wQ cI cZ cO x a t b q ρ) (fun u : HS => wQ cI cZ cO x a t b q u) 1 6 sz ((-9000001)) := by
  refine kEnterH (cc := cL_of) (maxL := 5) (ret := some .int) (hh := [(0, 113, 114, 35)]) (by decide +kernel) rfl (Nat.le_of_ble_eq_true rfl) ?_
  intro p e s m below meth c args hx hb hr hml hts hown hlocks htab hK hN A hA9 Q hQ9 hP hD hsz hS hA hX hC ls hl
  have hl : lv_has ls 5 [(0, .ref (x 0)), (1, .int (nI 8)), (2, .int v), (3, .int w)] := hl
  obtain ⟨H, hH9⟩ : ∃ H, H = s.heap := ⟨_, rfl⟩
  rw [← hH9] at hP ⊢
  have hS : va_S A s.heap H [] := by rw [hH9]; exact va_S.rf
  have hlocs : ∃ locs : List Loc, locs = [] := ⟨_, rfl⟩
  obtain ⟨locs, hlocs⟩ := hlocs
  rw [← hlocs] at hS ⊢
  have hP : va_P D vwCl (wQ cI cZ cO x a t b q ρ ++ []) H := by rw [List.append_nil]; exact hP
  have hD : va_D A (wQ cI cZ cO x a t b q ρ ++ []) := by rw [List.append_nil]; exact hD
  refine lv_iload_n hx hb dL_of_0 rfl (lv_at hl 1 rfl) ?_
  refine lv_if_ne (tgt := 12) hx hb dL_of_1 (by decide) (fun _ => ?_) (fun c9 => absurd c9 (by decide +kernel))
  refine lv_iload_n hx hb dL_of_12 rfl (lv_at hl 1 rfl) ?_
  refine lv_iconst (v := nI 1) hx hb dL_of_13 (by decide +kernel) ?_
  refine lv_icmp_ne (tgt := 25) hx hb dL_of_14 (by decide) (fun _ => ?_) (fun c9 => absurd c9 (by decide +kernel))
  refine lv_iload_n hx hb dL_of_25 rfl (lv_at hl 1 rfl) ?_
  refine lv_iconst (v := nI 2) hx hb dL_of_26 (by decide +kernel) ?_
  refine lv_icmp_ne (tgt := 38) hx hb dL_of_27 (by decide) (fun _ => ?_) (fun c9 => absurd c9 (by decide +kernel))
  refine lv_iload_n hx hb dL_of_38 rfl (lv_at hl 1 rfl) ?_
  refine lv_iconst (v := nI 3) hx hb dL_of_39 (by decide +kernel) ?_
  refine lv_icmp_ne (tgt := 51) hx hb dL_of_40 (by decide) (fun _ => ?_) (fun c9 => absurd c9 (by decide +kernel))
  refine lv_iload_n hx hb dL_of_51 rfl (lv_at hl 1 rfl) ?_
  refine lv_iconst (v := nI 4) hx hb dL_of_52 (by decide +kernel) ?_
  refine lv_icmp_ne (tgt := 64) hx hb dL_of_53 (by decide) (fun _ => ?_) (fun c9 => absurd c9 (by decide +kernel))
  refine lv_iload_n hx hb dL_of_64 rfl (lv_at hl 1 rfl) ?_
  refine lv_iconst (v := nI 5) hx hb dL_of_65 (by decide +kernel) ?_
  refine lv_icmp_ne (tgt := 77) hx hb dL_of_66 (by decide) (fun _ => ?_) (fun c9 => absurd c9 (by decide +kernel))
  refine lv_iload_n hx hb dL_of_77 rfl (lv_at hl 1 rfl) ?_
  refine lv_bipush (v := nI 6) hx hb dL_of_78 (by decide +kernel) ?_
  refine lv_icmp_ne (tgt := 92) hx hb dL_of_80 (by decide) (fun _ => ?_) (fun c9 => absurd c9 (by decide +kernel))
  refine lv_iload_n hx hb dL_of_92 rfl (lv_at hl 1 rfl) ?_
  refine lv_bipush (v := nI 7) hx hb dL_of_93 (by decide +kernel) ?_
  refine lv_icmp_ne (tgt := 107) hx hb dL_of_95 (by decide) (fun _ => ?_) (fun c9 => absurd c9 (by decide +kernel))
  refine lv_aload_n hx hb dL_of_107 rfl (lv_at hl 0 rfl) ?_
  refine lv_iload_n hx hb dL_of_108 rfl (lv_at hl 2 rfl) ?_
  refine lv_iload_n hx hb dL_of_109 rfl (lv_at hl 3 rfl) ?_
  refine kCallXP_i (T := []) hP hD hS hA (vx_runV (As := [.int v, .int w]) (rest := []) ⟨hx, hb, hml, hown, hts⟩ (c_X2_margin_bad l hst D cI cZ cO cJ x a t b (qK q) (qHo q) (sT (qσ q)) (sE (qσ q)) (sD (qσ q)) (sF (qσ q)) (sS (qσ q)) (sC (qσ q)) (sL (qσ q)) (sT ρ) (sE ρ) (sD ρ) (sF ρ) (sS ρ) (sC ρ) (sL ρ) (qLo q) (qSe q) (qEf q) (qgp q) (qgi q) (qam q) (qli q) (qdl q) v w H.size h) (cwV (rm := rxX2_margin) 2 hts gL_of_X2_margin rfl rfl rfl (by decide +kernel) ⟨Nat.le_of_ble_eq_true rfl, Nat.le_of_ble_eq_true rfl⟩) (kPreVXW hK hN hX (pfP hP) (pfD hD) hS (kfree (pfD hD) hS hA) (va_recv hK (pfP hP) (ci := 2) (q0 := 0) rfl rfl)) rfl rfl hl.1 rfl (lv_room (Nat.le_of_ble_eq_true rfl)) dL_of_110 ⟨Nat.le_of_ble_eq_true rfl, Nat.le_of_ble_eq_true rfl⟩) (fun ce q9 H locs hP hD hS hce hcv hcl => ?_)
  refine vx_catch (name := "java/lang/IllegalArgumentException") hown [] ⟨0, 113, 114, 35⟩ [] (by rw [htab]; rfl) (fun z h => absurd h (List.not_mem_nil)) rfl (by decide) (hts (.classLink RL 35 "java/lang/IllegalArgumentException") (by decide +kernel)) (kXw.use xB_iae_ok hX.2.2.2.2.2.2.1 _ (by decide +kernel)) hce hcv hcl ?_
  refine lv_astore (lv' := [(4, .ref q9), (0, .ref (x 0)), (1, .int (nI 8)), (2, .int v), (3, .int w)]) hx hb dL_of_114 hl (by decide) rfl (fun ls hl => ?_)
  refine lv_ldc hx hb hown (hts (.constant RL 37 (-9000001)) (by decide +kernel)) dL_of_116 ?_
  subst hQ9
  subst hA9
  rw [List.append_nil] at hP
  exact kRetH_i ρ hx hb hr hlocks hP hS dL_of_118 rfl

def badOf (k : Nat) (v w : Int32) : Prop := if k < 2 then ¬ inR v (nI 0) (nI 7) else if k < 6 then ¬ inR v (nI 0) (nI 5) else ¬ (inR v (nI 0) (nI 5) ∧ inR w (nI 1) (nI 60))
theorem c_L_of_bad (l : Launch) (hst : l.stackTraces = false) (D : va_G) (cI cZ cO cJ : ClassId) (x a t b : Nat → Nat) (q : QS) (ρ : HS) (k : Nat) (v w : Int32) (sz : Nat) (hk : k < 9) (h : badOf k v w) : kMH l yL_of wsL_of rxL_of D (kT cI cZ cO cJ) [.ref (x 0), .int (nI k), .int v, .int w] (wQ cI cZ cO x a t b q ρ) (fun u : HS => wQ cI cZ cO x a t b q u) 1 6 sz ((-9000001)) := by
  unfold badOf at h
  match k, hk, h with
  | 0, _, h => exact c_L_of_command_bad l hst D cI cZ cO cJ x a t b q ρ v w sz (by first | exact h | (rw [if_pos (by decide)] at h; exact h) | (rw [if_neg (by decide), if_pos (by decide)] at h; exact h) | (rw [if_neg (by decide), if_neg (by decide)] at h; exact h))
  | 1, _, h => exact c_L_of_speed_bad l hst D cI cZ cO cJ x a t b q ρ v w sz (by first | exact h | (rw [if_pos (by decide)] at h; exact h) | (rw [if_neg (by decide), if_pos (by decide)] at h; exact h) | (rw [if_neg (by decide), if_neg (by decide)] at h; exact h))
  | 2, _, h => exact c_L_of_temperature_bad l hst D cI cZ cO cJ x a t b q ρ v w sz (by first | exact h | (rw [if_pos (by decide)] at h; exact h) | (rw [if_neg (by decide), if_pos (by decide)] at h; exact h) | (rw [if_neg (by decide), if_neg (by decide)] at h; exact h))
  | 3, _, h => exact c_L_of_demand_bad l hst D cI cZ cO cJ x a t b q ρ v w sz (by first | exact h | (rw [if_pos (by decide)] at h; exact h) | (rw [if_neg (by decide), if_pos (by decide)] at h; exact h) | (rw [if_neg (by decide), if_neg (by decide)] at h; exact h))
  | 4, _, h => exact c_L_of_errors_bad l hst D cI cZ cO cJ x a t b q ρ v w sz (by first | exact h | (rw [if_pos (by decide)] at h; exact h) | (rw [if_neg (by decide), if_pos (by decide)] at h; exact h) | (rw [if_neg (by decide), if_neg (by decide)] at h; exact h))
  | 5, _, h => exact c_L_of_hotMinutes_bad l hst D cI cZ cO cJ x a t b q ρ v w sz (by first | exact h | (rw [if_pos (by decide)] at h; exact h) | (rw [if_neg (by decide), if_pos (by decide)] at h; exact h) | (rw [if_neg (by decide), if_neg (by decide)] at h; exact h))
  | 6, _, h => exact c_L_of_expected_bad l hst D cI cZ cO cJ x a t b q ρ v w sz (by first | exact h | (rw [if_pos (by decide)] at h; exact h) | (rw [if_neg (by decide), if_pos (by decide)] at h; exact h) | (rw [if_neg (by decide), if_neg (by decide)] at h; exact h))
  | 7, _, h => exact c_L_of_critical_bad l hst D cI cZ cO cJ x a t b q ρ v w sz (by first | exact h | (rw [if_pos (by decide)] at h; exact h) | (rw [if_neg (by decide), if_pos (by decide)] at h; exact h) | (rw [if_neg (by decide), if_neg (by decide)] at h; exact h))
  | 8, _, h => exact c_L_of_margin_bad l hst D cI cZ cO cJ x a t b q ρ v w sz (by first | exact h | (rw [if_pos (by decide)] at h; exact h) | (rw [if_neg (by decide), if_pos (by decide)] at h; exact h) | (rw [if_neg (by decide), if_neg (by decide)] at h; exact h))
