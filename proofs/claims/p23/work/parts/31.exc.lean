set_option maxRecDepth 100000 in
theorem kmem_requireWithin_141 : ∀ w ∈ (vx_atS RX2 141 "java/lang/IllegalArgumentException" ["java/lang/RuntimeException", "java/lang/Exception"]).filter goodWord, w ∈ wsX2_requireWithin := fun w h => List.mem_cons_of_mem _ (List.mem_append_right _ h)
abbrev rxX2_requireWithin : Room := { frames := 6, cells := 1, slots := 6, locals := 90 }
set_option maxHeartbeats 4000000 in
set_option maxRecDepth 100000 in
/-- requireWithin_bad -/
theorem c_X2_requireWithin_bad (l : Launch) (hst : l.stackTraces = false) (D : va_G) (cI cZ cO cJ : ClassId) (v lo hi : Int32) (sz : Nat) (h : ¬ inR v lo hi) : kMxv l yX2_requireWithin wsX2_requireWithin rxX2_requireWithin D (kT cI cZ cO cJ) [.int v, .int lo, .int hi] ([]) sz nIAE := by
  refine kEnterX (cc := cX2_requireWithin) (maxL := 3) (ret := none) (by decide +kernel) rfl (Nat.le_of_ble_eq_true rfl) ?_
  intro p e s m below meth c args hx hb hr hml hts hown hlocks hno hK hN A hA9 Q hQ9 hP hD hsz hS hA hX ls hl
  have hl : lv_has ls 3 [(0, .int v), (1, .int lo), (2, .int hi)] := hl
  obtain ⟨H, hH9⟩ : ∃ H, H = s.heap := ⟨_, rfl⟩
  rw [← hH9] at hP ⊢
  have hS : va_S A s.heap H [] := by rw [hH9]; exact va_S.rf
  refine lv_iload_n hx hb dX2_requireWithin_0 rfl (lv_at hl 0 rfl) ?_
  refine lv_iload_n hx hb dX2_requireWithin_1 rfl (lv_at hl 1 rfl) ?_
  refine lv_icmp_lt (tgt := 10) hx hb dX2_requireWithin_2 (by decide) (fun c1 => ?_) (fun c1 => ?_)
  · obtain ⟨sa, hsa⟩ := hX.2.2.1
    subst hQ9
    subst hA9
    have hgw : ∀ w ∈ (vx_atS RX2 141 "java/lang/IllegalArgumentException" ["java/lang/RuntimeException", "java/lang/Exception"]).filter goodWord, w.before args s = true := fun w h => hts w (kmem_requireWithin_141 w h)
    exact kThrow hx hb hst hown (by decide +kernel) (by decide +kernel) (hts (.classLink RX2 137 "java/lang/IllegalArgumentException") (by decide +kernel)) (hts (.initialized "java/lang/IllegalArgumentException") (by decide +kernel)) hsa (vx_hat (B := xB_iae) hgw (fun w h => h) (kXw.use xB_iae_ok hX.2.2.2.2.2.2.1)) xg_iae hX hP hS (hl.1.trans hml.symm) dX2_requireWithin_10 dX2_requireWithin_13 dX2_requireWithin_14 dX2_requireWithin_16 dX2_requireWithin_19 hno (by decide) (Nat.le_of_ble_eq_true rfl) (Nat.le_of_ble_eq_true rfl) (Nat.le_of_ble_eq_true rfl) hlocks
  · refine lv_iload_n hx hb dX2_requireWithin_5 rfl (lv_at hl 0 rfl) ?_
    refine lv_iload_n hx hb dX2_requireWithin_6 rfl (lv_at hl 2 rfl) ?_
    refine lv_icmp_le (tgt := 20) hx hb dX2_requireWithin_7 (by decide) (fun c9 => absurd c9 (fun q => h ⟨c1, q⟩)) (fun _ => ?_)
    obtain ⟨sa, hsa⟩ := hX.2.2.1
    subst hQ9
    subst hA9
    have hgw : ∀ w ∈ (vx_atS RX2 141 "java/lang/IllegalArgumentException" ["java/lang/RuntimeException", "java/lang/Exception"]).filter goodWord, w.before args s = true := fun w h => hts w (kmem_requireWithin_141 w h)
    exact kThrow hx hb hst hown (by decide +kernel) (by decide +kernel) (hts (.classLink RX2 137 "java/lang/IllegalArgumentException") (by decide +kernel)) (hts (.initialized "java/lang/IllegalArgumentException") (by decide +kernel)) hsa (vx_hat (B := xB_iae) hgw (fun w h => h) (kXw.use xB_iae_ok hX.2.2.2.2.2.2.1)) xg_iae hX hP hS (hl.1.trans hml.symm) dX2_requireWithin_10 dX2_requireWithin_13 dX2_requireWithin_14 dX2_requireWithin_16 dX2_requireWithin_19 hno (by decide) (Nat.le_of_ble_eq_true rfl) (Nat.le_of_ble_eq_true rfl) (Nat.le_of_ble_eq_true rfl) hlocks

abbrev rxX2_requireZone : Room := { frames := 7, cells := 1, slots := 6, locals := 112 }
set_option maxHeartbeats 4000000 in
set_option maxRecDepth 100000 in
/-- requireZone_bad -/
theorem c_X2_requireZone_bad (l : Launch) (hst : l.stackTraces = false) (D : va_G) (cI cZ cO cJ : ClassId) (v : Int32) (sz : Nat) (h : ¬ inR v (nI 0) (nI 5)) : kMxv l yX2_requireZone wsX2_requireZone rxX2_requireZone D (kT cI cZ cO cJ) [.int v] ([]) sz nIAE := by
  refine kEnterX (cc := cX2_requireZone) (maxL := 1) (ret := none) (by decide +kernel) rfl (Nat.le_of_ble_eq_true rfl) ?_
  intro p e s m below meth c args hx hb hr hml hts hown hlocks hno hK hN A hA9 Q hQ9 hP hD hsz hS hA hX ls hl
  have hl : lv_has ls 1 [(0, .int v)] := hl
  obtain ⟨H, hH9⟩ : ∃ H, H = s.heap := ⟨_, rfl⟩
  rw [← hH9] at hP ⊢
  have hS : va_S A s.heap H [] := by rw [hH9]; exact va_S.rf
  refine lv_iload_n hx hb dX2_requireZone_0 rfl (lv_at hl 0 rfl) ?_
  refine lv_iconst (v := nI 0) hx hb dX2_requireZone_1 (by decide +kernel) ?_
  refine lv_iconst (v := nI 5) hx hb dX2_requireZone_2 (by decide +kernel) ?_
  refine kCallX_v hP hD hS hA [] rfl (vx_runS (As := [.int v, .int (nI 0), .int (nI 5)]) (rest := []) ⟨hx, hb, hml, hown, hts⟩ (c_X2_requireWithin_bad l hst D cI cZ cO cJ v (nI 0) (nI 5) H.size h) (va_cwS (rm := rxX2_requireWithin) 3 hts gX2_requireZone_X2_requireWithin rfl rfl rfl (by decide +kernel) ⟨Nat.le_of_ble_eq_true rfl, Nat.le_of_ble_eq_true rfl⟩) (kPreSX hK hN hX hP hD hS hA [] rfl rfl) rfl rfl hl.1 rfl (lv_room (Nat.le_of_ble_eq_true rfl)) dX2_requireZone_3 ⟨Nat.le_of_ble_eq_true rfl, Nat.le_of_ble_eq_true rfl⟩) (fun ce q9 H locs hP hD hS hce hcv hcl => ?_)
  subst hQ9
  subst hA9
  exact kOut hno hlocks hP hS hce hcv hcl (Nat.le_refl 1) (Nat.le_refl 6)

abbrev rxX2_requireFan : Room := { frames := 7, cells := 1, slots := 6, locals := 112 }
set_option maxHeartbeats 4000000 in
set_option maxRecDepth 100000 in
/-- requireFan_bad -/
theorem c_X2_requireFan_bad (l : Launch) (hst : l.stackTraces = false) (D : va_G) (cI cZ cO cJ : ClassId) (v : Int32) (sz : Nat) (h : ¬ inR v (nI 0) (nI 7)) : kMxv l yX2_requireFan wsX2_requireFan rxX2_requireFan D (kT cI cZ cO cJ) [.int v] ([]) sz nIAE := by
  refine kEnterX (cc := cX2_requireFan) (maxL := 1) (ret := none) (by decide +kernel) rfl (Nat.le_of_ble_eq_true rfl) ?_
  intro p e s m below meth c args hx hb hr hml hts hown hlocks hno hK hN A hA9 Q hQ9 hP hD hsz hS hA hX ls hl
  have hl : lv_has ls 1 [(0, .int v)] := hl
  obtain ⟨H, hH9⟩ : ∃ H, H = s.heap := ⟨_, rfl⟩
  rw [← hH9] at hP ⊢
  have hS : va_S A s.heap H [] := by rw [hH9]; exact va_S.rf
  refine lv_iload_n hx hb dX2_requireFan_0 rfl (lv_at hl 0 rfl) ?_
  refine lv_iconst (v := nI 0) hx hb dX2_requireFan_1 (by decide +kernel) ?_
  refine lv_bipush (v := nI 7) hx hb dX2_requireFan_2 (by decide +kernel) ?_
  refine kCallX_v hP hD hS hA [] rfl (vx_runS (As := [.int v, .int (nI 0), .int (nI 7)]) (rest := []) ⟨hx, hb, hml, hown, hts⟩ (c_X2_requireWithin_bad l hst D cI cZ cO cJ v (nI 0) (nI 7) H.size h) (va_cwS (rm := rxX2_requireWithin) 3 hts gX2_requireFan_X2_requireWithin rfl rfl rfl (by decide +kernel) ⟨Nat.le_of_ble_eq_true rfl, Nat.le_of_ble_eq_true rfl⟩) (kPreSX hK hN hX hP hD hS hA [] rfl rfl) rfl rfl hl.1 rfl (lv_room (Nat.le_of_ble_eq_true rfl)) dX2_requireFan_4 ⟨Nat.le_of_ble_eq_true rfl, Nat.le_of_ble_eq_true rfl⟩) (fun ce q9 H locs hP hD hS hce hcv hcl => ?_)
  subst hQ9
  subst hA9
  exact kOut hno hlocks hP hS hce hcv hcl (Nat.le_refl 1) (Nat.le_refl 6)

abbrev rxX2_requireForecast : Room := { frames := 8, cells := 1, slots := 6, locals := 132 }
set_option maxHeartbeats 4000000 in
set_option maxRecDepth 100000 in
/-- requireForecast_bad -/
theorem c_X2_requireForecast_bad (l : Launch) (hst : l.stackTraces = false) (D : va_G) (cI cZ cO cJ : ClassId) (v w : Int32) (sz : Nat) (h : ¬ (inR v (nI 0) (nI 5) ∧ inR w (nI 1) (nI 60))) : kMxv l yX2_requireForecast wsX2_requireForecast rxX2_requireForecast D (kT cI cZ cO cJ) [.int v, .int w] ([]) sz nIAE := by
  refine kEnterX (cc := cX2_requireForecast) (maxL := 2) (ret := none) (by decide +kernel) rfl (Nat.le_of_ble_eq_true rfl) ?_
  intro p e s m below meth c args hx hb hr hml hts hown hlocks hno hK hN A hA9 Q hQ9 hP hD hsz hS hA hX ls hl
  have hl : lv_has ls 2 [(0, .int v), (1, .int w)] := hl
  obtain ⟨H, hH9⟩ : ∃ H, H = s.heap := ⟨_, rfl⟩
  rw [← hH9] at hP ⊢
  have hS : va_S A s.heap H [] := by rw [hH9]; exact va_S.rf
  by_cases g0 : inR v (nI 0) (nI 5)
  · have g1 : ¬ inR w (nI 1) (nI 60) := fun q => h ⟨g0, q⟩
    refine lv_iload_n hx hb dX2_requireForecast_0 rfl (lv_at hl 0 rfl) ?_
    refine kCall_v (W0 := []) (W1 := []) hP hD hS hA [] rfl rfl (va_runS (As := [.int v]) (rest := []) ⟨hx, hb, hml, hown, hts⟩ (c_X2_requireZone l D cI cZ cO cJ v H.size g0.1 g0.2) (va_cwS (rm := rmX2_requireZone) 1 hts gX2_requireForecast_X2_requireZone rfl rfl rfl (by decide +kernel) ⟨Nat.le_of_ble_eq_true rfl, Nat.le_of_ble_eq_true rfl⟩) (kPreS hK hN hP hD [] rfl rfl) rfl rfl hl.1 rfl (lv_room (Nat.le_of_ble_eq_true rfl)) dX2_requireForecast_1 ⟨Nat.zero_le _, Nat.zero_le _⟩) (fun H locs hP hD hS => ?_)
    have hP : va_P D vwCl ([]) H := hP
    have hD : va_D A ([]) := hD
    refine lv_iload_n hx hb dX2_requireForecast_4 rfl (lv_at hl 1 rfl) ?_
    refine lv_iconst (v := nI 1) hx hb dX2_requireForecast_5 (by decide +kernel) ?_
    refine lv_bipush (v := nI 60) hx hb dX2_requireForecast_6 (by decide +kernel) ?_
    refine kCallX_v hP hD hS hA [] rfl (vx_runS (As := [.int w, .int (nI 1), .int (nI 60)]) (rest := []) ⟨hx, hb, hml, hown, hts⟩ (c_X2_requireWithin_bad l hst D cI cZ cO cJ w (nI 1) (nI 60) H.size g1) (va_cwS (rm := rxX2_requireWithin) 3 hts gX2_requireForecast_X2_requireWithin rfl rfl rfl (by decide +kernel) ⟨Nat.le_of_ble_eq_true rfl, Nat.le_of_ble_eq_true rfl⟩) (kPreSX hK hN hX hP hD hS hA [] rfl rfl) rfl rfl hl.1 rfl (lv_room (Nat.le_of_ble_eq_true rfl)) dX2_requireForecast_8 ⟨Nat.le_of_ble_eq_true rfl, Nat.le_of_ble_eq_true rfl⟩) (fun ce q9 H locs hP hD hS hce hcv hcl => ?_)
    subst hQ9
    subst hA9
    exact kOut hno hlocks hP hS hce hcv hcl (Nat.le_refl 1) (Nat.le_refl 6)
  · refine lv_iload_n hx hb dX2_requireForecast_0 rfl (lv_at hl 0 rfl) ?_
    refine kCallX_v hP hD hS hA [] rfl (vx_runS (As := [.int v]) (rest := []) ⟨hx, hb, hml, hown, hts⟩ (c_X2_requireZone_bad l hst D cI cZ cO cJ v H.size g0) (va_cwS (rm := rxX2_requireZone) 1 hts gX2_requireForecast_X2_requireZone rfl rfl rfl (by decide +kernel) ⟨Nat.le_of_ble_eq_true rfl, Nat.le_of_ble_eq_true rfl⟩) (kPreSX hK hN hX hP hD hS hA [] rfl rfl) rfl rfl hl.1 rfl (lv_room (Nat.le_of_ble_eq_true rfl)) dX2_requireForecast_1 ⟨Nat.le_of_ble_eq_true rfl, Nat.le_of_ble_eq_true rfl⟩) (fun ce q9 H locs hP hD hS hce hcv hcl => ?_)
    subst hQ9
    subst hA9
    exact kOut hno hlocks hP hS hce hcv hcl (Nat.le_refl 1) (Nat.le_refl 6)

abbrev rxX2_setLoad : Room := { frames := 8, cells := 1, slots := 6, locals := 132 }
set_option maxHeartbeats 4000000 in
set_option maxRecDepth 100000 in
/-- setLoad_bad -/
theorem c_X2_setLoad_bad (l : Launch) (hst : l.stackTraces = false) (D : va_G) (cI cZ cO cJ : ClassId) (x a t b : Nat → Nat) (ck : Nat) (Ho T E Dm F S : Nat → Int32) (C : Nat → Nat → Int32) (la : Nat) (T1 E1 D1 F1 S1 : Nat → Int32) (C1 : Nat → Nat → Int32) (la1 : Nat) (Lo Se : Nat → Int32) (Ef : Nat → Nat → Int32) (gp gi am li : Int32) (dl : Nat) (v w : Int32) (sz : Nat) (h : ¬ (inR v (nI 0) (nI 5) ∧ inR w (nI 0) (nI 200))) : kMxi l yX2_setLoad wsX2_setLoad rxX2_setLoad D (kT cI cZ cO cJ) [.ref (x 0), .int v, .int w] (wC cI cZ cO x a t b ck Ho T E Dm F S C la T1 E1 D1 F1 S1 C1 la1 Lo Se Ef gp gi am li dl) sz nIAE := by
  refine kEnterX (cc := cX2_setLoad) (maxL := 4) (ret := some .int) (by decide +kernel) rfl (Nat.le_of_ble_eq_true rfl) ?_
  intro p e s m below meth c args hx hb hr hml hts hown hlocks hno hK hN A hA9 Q hQ9 hP hD hsz hS hA hX ls hl
  have hl : lv_has ls 4 [(0, .ref (x 0)), (1, .int v), (2, .int w)] := hl
  have hi_X2 : ∀ w ∈ u_ws RX2 TX2 5, w ∈ wsX2_setLoad := by decide +kernel
  obtain ⟨H, hH9⟩ : ∃ H, H = s.heap := ⟨_, rfl⟩
  rw [← hH9] at hP ⊢
  have hS : va_S A s.heap H [] := by rw [hH9]; exact va_S.rf
  by_cases g0 : inR v (nI 0) (nI 5)
  · have g1 : ¬ inR w (nI 0) (nI 200) := fun q => h ⟨g0, q⟩
    refine lv_iload_n hx hb dX2_setLoad_0 rfl (lv_at hl 1 rfl) ?_
    refine kCall_v (W0 := []) (W1 := []) hP hD hS hA [] rfl rfl (va_runS (As := [.int v]) (rest := []) ⟨hx, hb, hml, hown, hts⟩ (c_X2_requireZone l D cI cZ cO cJ v H.size g0.1 g0.2) (va_cwS (rm := rmX2_requireZone) 1 hts gX2_setLoad_X2_requireZone rfl rfl rfl (by decide +kernel) ⟨Nat.le_of_ble_eq_true rfl, Nat.le_of_ble_eq_true rfl⟩) (kPreS hK hN hP hD [] rfl rfl) rfl rfl hl.1 rfl (lv_room (Nat.le_of_ble_eq_true rfl)) dX2_setLoad_1 ⟨Nat.zero_le _, Nat.zero_le _⟩) (fun H locs hP hD hS => ?_)
    have hP : va_P D vwCl (wC cI cZ cO x a t b ck Ho T E Dm F S C la T1 E1 D1 F1 S1 C1 la1 Lo Se Ef gp gi am li dl) H := hP
    have hD : va_D A (wC cI cZ cO x a t b ck Ho T E Dm F S C la T1 E1 D1 F1 S1 C1 la1 Lo Se Ef gp gi am li dl) := hD
    refine lv_iload_n hx hb dX2_setLoad_4 rfl (lv_at hl 2 rfl) ?_
    refine lv_iconst (v := nI 0) hx hb dX2_setLoad_5 (by decide +kernel) ?_
    refine lv_sipush (v := nI 200) hx hb dX2_setLoad_6 (by decide +kernel) ?_
    refine kCallX_v hP hD hS hA [] rfl (vx_runS (As := [.int w, .int (nI 0), .int (nI 200)]) (rest := []) ⟨hx, hb, hml, hown, hts⟩ (c_X2_requireWithin_bad l hst D cI cZ cO cJ w (nI 0) (nI 200) H.size g1) (va_cwS (rm := rxX2_requireWithin) 3 hts gX2_setLoad_X2_requireWithin rfl rfl rfl (by decide +kernel) ⟨Nat.le_of_ble_eq_true rfl, Nat.le_of_ble_eq_true rfl⟩) (kPreSX hK hN hX hP hD hS hA [] rfl rfl) rfl rfl hl.1 rfl (lv_room (Nat.le_of_ble_eq_true rfl)) dX2_setLoad_9 ⟨Nat.le_of_ble_eq_true rfl, Nat.le_of_ble_eq_true rfl⟩) (fun ce q9 H locs hP hD hS hce hcv hcl => ?_)
    subst hQ9
    subst hA9
    exact kOut hno hlocks hP hS hce hcv hcl (Nat.le_refl 1) (Nat.le_refl 6)
  · refine lv_iload_n hx hb dX2_setLoad_0 rfl (lv_at hl 1 rfl) ?_
    refine kCallX_v hP hD hS hA [] rfl (vx_runS (As := [.int v]) (rest := []) ⟨hx, hb, hml, hown, hts⟩ (c_X2_requireZone_bad l hst D cI cZ cO cJ v H.size g0) (va_cwS (rm := rxX2_requireZone) 1 hts gX2_setLoad_X2_requireZone rfl rfl rfl (by decide +kernel) ⟨Nat.le_of_ble_eq_true rfl, Nat.le_of_ble_eq_true rfl⟩) (kPreSX hK hN hX hP hD hS hA [] rfl rfl) rfl rfl hl.1 rfl (lv_room (Nat.le_of_ble_eq_true rfl)) dX2_setLoad_1 ⟨Nat.le_of_ble_eq_true rfl, Nat.le_of_ble_eq_true rfl⟩) (fun ce q9 H locs hP hD hS hce hcv hcl => ?_)
    subst hQ9
    subst hA9
    exact kOut hno hlocks hP hS hce hcv hcl (Nat.le_refl 1) (Nat.le_refl 6)

abbrev rxX2_setSetpoint : Room := { frames := 8, cells := 1, slots := 6, locals := 132 }
set_option maxHeartbeats 4000000 in
set_option maxRecDepth 100000 in
/-- setSetpoint_bad -/
theorem c_X2_setSetpoint_bad (l : Launch) (hst : l.stackTraces = false) (D : va_G) (cI cZ cO cJ : ClassId) (x a t b : Nat → Nat) (ck : Nat) (Ho T E Dm F S : Nat → Int32) (C : Nat → Nat → Int32) (la : Nat) (T1 E1 D1 F1 S1 : Nat → Int32) (C1 : Nat → Nat → Int32) (la1 : Nat) (Lo Se : Nat → Int32) (Ef : Nat → Nat → Int32) (gp gi am li : Int32) (dl : Nat) (v w : Int32) (sz : Nat) (h : ¬ (inR v (nI 0) (nI 5) ∧ inR w (nI 1500) (nI 3500))) : kMxi l yX2_setSetpoint wsX2_setSetpoint rxX2_setSetpoint D (kT cI cZ cO cJ) [.ref (x 0), .int v, .int w] (wC cI cZ cO x a t b ck Ho T E Dm F S C la T1 E1 D1 F1 S1 C1 la1 Lo Se Ef gp gi am li dl) sz nIAE := by
  refine kEnterX (cc := cX2_setSetpoint) (maxL := 4) (ret := some .int) (by decide +kernel) rfl (Nat.le_of_ble_eq_true rfl) ?_
  intro p e s m below meth c args hx hb hr hml hts hown hlocks hno hK hN A hA9 Q hQ9 hP hD hsz hS hA hX ls hl
  have hl : lv_has ls 4 [(0, .ref (x 0)), (1, .int v), (2, .int w)] := hl
  have hi_X2 : ∀ w ∈ u_ws RX2 TX2 5, w ∈ wsX2_setSetpoint := by decide +kernel
  obtain ⟨H, hH9⟩ : ∃ H, H = s.heap := ⟨_, rfl⟩
  rw [← hH9] at hP ⊢
  have hS : va_S A s.heap H [] := by rw [hH9]; exact va_S.rf
  by_cases g0 : inR v (nI 0) (nI 5)
  · have g1 : ¬ inR w (nI 1500) (nI 3500) := fun q => h ⟨g0, q⟩
    refine lv_iload_n hx hb dX2_setSetpoint_0 rfl (lv_at hl 1 rfl) ?_
    refine kCall_v (W0 := []) (W1 := []) hP hD hS hA [] rfl rfl (va_runS (As := [.int v]) (rest := []) ⟨hx, hb, hml, hown, hts⟩ (c_X2_requireZone l D cI cZ cO cJ v H.size g0.1 g0.2) (va_cwS (rm := rmX2_requireZone) 1 hts gX2_setSetpoint_X2_requireZone rfl rfl rfl (by decide +kernel) ⟨Nat.le_of_ble_eq_true rfl, Nat.le_of_ble_eq_true rfl⟩) (kPreS hK hN hP hD [] rfl rfl) rfl rfl hl.1 rfl (lv_room (Nat.le_of_ble_eq_true rfl)) dX2_setSetpoint_1 ⟨Nat.zero_le _, Nat.zero_le _⟩) (fun H locs hP hD hS => ?_)
    have hP : va_P D vwCl (wC cI cZ cO x a t b ck Ho T E Dm F S C la T1 E1 D1 F1 S1 C1 la1 Lo Se Ef gp gi am li dl) H := hP
    have hD : va_D A (wC cI cZ cO x a t b ck Ho T E Dm F S C la T1 E1 D1 F1 S1 C1 la1 Lo Se Ef gp gi am li dl) := hD
    refine lv_iload_n hx hb dX2_setSetpoint_4 rfl (lv_at hl 2 rfl) ?_
    refine lv_sipush (v := nI 1500) hx hb dX2_setSetpoint_5 (by decide +kernel) ?_
    refine lv_sipush (v := nI 3500) hx hb dX2_setSetpoint_8 (by decide +kernel) ?_
    refine kCallX_v hP hD hS hA [] rfl (vx_runS (As := [.int w, .int (nI 1500), .int (nI 3500)]) (rest := []) ⟨hx, hb, hml, hown, hts⟩ (c_X2_requireWithin_bad l hst D cI cZ cO cJ w (nI 1500) (nI 3500) H.size g1) (va_cwS (rm := rxX2_requireWithin) 3 hts gX2_setSetpoint_X2_requireWithin rfl rfl rfl (by decide +kernel) ⟨Nat.le_of_ble_eq_true rfl, Nat.le_of_ble_eq_true rfl⟩) (kPreSX hK hN hX hP hD hS hA [] rfl rfl) rfl rfl hl.1 rfl (lv_room (Nat.le_of_ble_eq_true rfl)) dX2_setSetpoint_11 ⟨Nat.le_of_ble_eq_true rfl, Nat.le_of_ble_eq_true rfl⟩) (fun ce q9 H locs hP hD hS hce hcv hcl => ?_)
    subst hQ9
    subst hA9
    exact kOut hno hlocks hP hS hce hcv hcl (Nat.le_refl 1) (Nat.le_refl 6)
  · refine lv_iload_n hx hb dX2_setSetpoint_0 rfl (lv_at hl 1 rfl) ?_
    refine kCallX_v hP hD hS hA [] rfl (vx_runS (As := [.int v]) (rest := []) ⟨hx, hb, hml, hown, hts⟩ (c_X2_requireZone_bad l hst D cI cZ cO cJ v H.size g0) (va_cwS (rm := rxX2_requireZone) 1 hts gX2_setSetpoint_X2_requireZone rfl rfl rfl (by decide +kernel) ⟨Nat.le_of_ble_eq_true rfl, Nat.le_of_ble_eq_true rfl⟩) (kPreSX hK hN hX hP hD hS hA [] rfl rfl) rfl rfl hl.1 rfl (lv_room (Nat.le_of_ble_eq_true rfl)) dX2_setSetpoint_1 ⟨Nat.le_of_ble_eq_true rfl, Nat.le_of_ble_eq_true rfl⟩) (fun ce q9 H locs hP hD hS hce hcv hcl => ?_)
    subst hQ9
    subst hA9
    exact kOut hno hlocks hP hS hce hcv hcl (Nat.le_refl 1) (Nat.le_refl 6)

abbrev rxX2_setEffect : Room := { frames := 8, cells := 1, slots := 6, locals := 132 }
set_option maxHeartbeats 4000000 in
set_option maxRecDepth 100000 in
/-- setEffect_bad -/
theorem c_X2_setEffect_bad (l : Launch) (hst : l.stackTraces = false) (D : va_G) (cI cZ cO cJ : ClassId) (x a t b : Nat → Nat) (ck : Nat) (Ho T E Dm F S : Nat → Int32) (C : Nat → Nat → Int32) (la : Nat) (T1 E1 D1 F1 S1 : Nat → Int32) (C1 : Nat → Nat → Int32) (la1 : Nat) (Lo Se : Nat → Int32) (Ef : Nat → Nat → Int32) (gp gi am li : Int32) (dl : Nat) (u9 v w : Int32) (sz : Nat) (h : ¬ (inR u9 (nI 0) (nI 7) ∧ inR v (nI 0) (nI 5) ∧ inR w (nI 0) (nI 100))) : kMxi l yX2_setEffect wsX2_setEffect rxX2_setEffect D (kT cI cZ cO cJ) [.ref (x 0), .int u9, .int v, .int w] (wC cI cZ cO x a t b ck Ho T E Dm F S C la T1 E1 D1 F1 S1 C1 la1 Lo Se Ef gp gi am li dl) sz nIAE := by
  refine kEnterX (cc := cX2_setEffect) (maxL := 5) (ret := some .int) (by decide +kernel) rfl (Nat.le_of_ble_eq_true rfl) ?_
  intro p e s m below meth c args hx hb hr hml hts hown hlocks hno hK hN A hA9 Q hQ9 hP hD hsz hS hA hX ls hl
  have hl : lv_has ls 5 [(0, .ref (x 0)), (1, .int u9), (2, .int v), (3, .int w)] := hl
  have hi_X2 : ∀ w ∈ u_ws RX2 TX2 5, w ∈ wsX2_setEffect := by decide +kernel
  obtain ⟨H, hH9⟩ : ∃ H, H = s.heap := ⟨_, rfl⟩
  rw [← hH9] at hP ⊢
  have hS : va_S A s.heap H [] := by rw [hH9]; exact va_S.rf
  by_cases g0 : inR u9 (nI 0) (nI 7)
  · by_cases g1 : inR v (nI 0) (nI 5)
    · have g2 : ¬ inR w (nI 0) (nI 100) := fun q9 => h ⟨g0, g1, q9⟩
      refine lv_iload_n hx hb dX2_setEffect_0 rfl (lv_at hl 1 rfl) ?_
      refine kCall_v (W0 := []) (W1 := []) hP hD hS hA [] rfl rfl (va_runS (As := [.int u9]) (rest := []) ⟨hx, hb, hml, hown, hts⟩ (c_X2_requireFan l D cI cZ cO cJ u9 H.size g0.1 g0.2) (va_cwS (rm := rmX2_requireFan) 1 hts gX2_setEffect_X2_requireFan rfl rfl rfl (by decide +kernel) ⟨Nat.le_of_ble_eq_true rfl, Nat.le_of_ble_eq_true rfl⟩) (kPreS hK hN hP hD [] rfl rfl) rfl rfl hl.1 rfl (lv_room (Nat.le_of_ble_eq_true rfl)) dX2_setEffect_1 ⟨Nat.zero_le _, Nat.zero_le _⟩) (fun H locs hP hD hS => ?_)
      have hP : va_P D vwCl (wC cI cZ cO x a t b ck Ho T E Dm F S C la T1 E1 D1 F1 S1 C1 la1 Lo Se Ef gp gi am li dl) H := hP
      have hD : va_D A (wC cI cZ cO x a t b ck Ho T E Dm F S C la T1 E1 D1 F1 S1 C1 la1 Lo Se Ef gp gi am li dl) := hD
      refine lv_iload_n hx hb dX2_setEffect_4 rfl (lv_at hl 2 rfl) ?_
      refine kCall_v (W0 := []) (W1 := []) hP hD hS hA [] rfl rfl (va_runS (As := [.int v]) (rest := []) ⟨hx, hb, hml, hown, hts⟩ (c_X2_requireZone l D cI cZ cO cJ v H.size g1.1 g1.2) (va_cwS (rm := rmX2_requireZone) 1 hts gX2_setEffect_X2_requireZone rfl rfl rfl (by decide +kernel) ⟨Nat.le_of_ble_eq_true rfl, Nat.le_of_ble_eq_true rfl⟩) (kPreS hK hN hP hD [] rfl rfl) rfl rfl hl.1 rfl (lv_room (Nat.le_of_ble_eq_true rfl)) dX2_setEffect_5 ⟨Nat.zero_le _, Nat.zero_le _⟩) (fun H locs hP hD hS => ?_)
      have hP : va_P D vwCl (wC cI cZ cO x a t b ck Ho T E Dm F S C la T1 E1 D1 F1 S1 C1 la1 Lo Se Ef gp gi am li dl) H := hP
      have hD : va_D A (wC cI cZ cO x a t b ck Ho T E Dm F S C la T1 E1 D1 F1 S1 C1 la1 Lo Se Ef gp gi am li dl) := hD
      refine lv_iload_n hx hb dX2_setEffect_8 rfl (lv_at hl 3 rfl) ?_
      refine lv_iconst (v := nI 0) hx hb dX2_setEffect_9 (by decide +kernel) ?_
      refine lv_bipush (v := nI 100) hx hb dX2_setEffect_10 (by decide +kernel) ?_
      refine kCallX_v hP hD hS hA [] rfl (vx_runS (As := [.int w, .int (nI 0), .int (nI 100)]) (rest := []) ⟨hx, hb, hml, hown, hts⟩ (c_X2_requireWithin_bad l hst D cI cZ cO cJ w (nI 0) (nI 100) H.size g2) (va_cwS (rm := rxX2_requireWithin) 3 hts gX2_setEffect_X2_requireWithin rfl rfl rfl (by decide +kernel) ⟨Nat.le_of_ble_eq_true rfl, Nat.le_of_ble_eq_true rfl⟩) (kPreSX hK hN hX hP hD hS hA [] rfl rfl) rfl rfl hl.1 rfl (lv_room (Nat.le_of_ble_eq_true rfl)) dX2_setEffect_12 ⟨Nat.le_of_ble_eq_true rfl, Nat.le_of_ble_eq_true rfl⟩) (fun ce q9 H locs hP hD hS hce hcv hcl => ?_)
      subst hQ9
      subst hA9
      exact kOut hno hlocks hP hS hce hcv hcl (Nat.le_refl 1) (Nat.le_refl 6)
    · refine lv_iload_n hx hb dX2_setEffect_0 rfl (lv_at hl 1 rfl) ?_
      refine kCall_v (W0 := []) (W1 := []) hP hD hS hA [] rfl rfl (va_runS (As := [.int u9]) (rest := []) ⟨hx, hb, hml, hown, hts⟩ (c_X2_requireFan l D cI cZ cO cJ u9 H.size g0.1 g0.2) (va_cwS (rm := rmX2_requireFan) 1 hts gX2_setEffect_X2_requireFan rfl rfl rfl (by decide +kernel) ⟨Nat.le_of_ble_eq_true rfl, Nat.le_of_ble_eq_true rfl⟩) (kPreS hK hN hP hD [] rfl rfl) rfl rfl hl.1 rfl (lv_room (Nat.le_of_ble_eq_true rfl)) dX2_setEffect_1 ⟨Nat.zero_le _, Nat.zero_le _⟩) (fun H locs hP hD hS => ?_)
      have hP : va_P D vwCl (wC cI cZ cO x a t b ck Ho T E Dm F S C la T1 E1 D1 F1 S1 C1 la1 Lo Se Ef gp gi am li dl) H := hP
      have hD : va_D A (wC cI cZ cO x a t b ck Ho T E Dm F S C la T1 E1 D1 F1 S1 C1 la1 Lo Se Ef gp gi am li dl) := hD
      refine lv_iload_n hx hb dX2_setEffect_4 rfl (lv_at hl 2 rfl) ?_
      refine kCallX_v hP hD hS hA [] rfl (vx_runS (As := [.int v]) (rest := []) ⟨hx, hb, hml, hown, hts⟩ (c_X2_requireZone_bad l hst D cI cZ cO cJ v H.size g1) (va_cwS (rm := rxX2_requireZone) 1 hts gX2_setEffect_X2_requireZone rfl rfl rfl (by decide +kernel) ⟨Nat.le_of_ble_eq_true rfl, Nat.le_of_ble_eq_true rfl⟩) (kPreSX hK hN hX hP hD hS hA [] rfl rfl) rfl rfl hl.1 rfl (lv_room (Nat.le_of_ble_eq_true rfl)) dX2_setEffect_5 ⟨Nat.le_of_ble_eq_true rfl, Nat.le_of_ble_eq_true rfl⟩) (fun ce q9 H locs hP hD hS hce hcv hcl => ?_)
      subst hQ9
      subst hA9
      exact kOut hno hlocks hP hS hce hcv hcl (Nat.le_refl 1) (Nat.le_refl 6)
  · refine lv_iload_n hx hb dX2_setEffect_0 rfl (lv_at hl 1 rfl) ?_
    refine kCallX_v hP hD hS hA [] rfl (vx_runS (As := [.int u9]) (rest := []) ⟨hx, hb, hml, hown, hts⟩ (c_X2_requireFan_bad l hst D cI cZ cO cJ u9 H.size g0) (va_cwS (rm := rxX2_requireFan) 1 hts gX2_setEffect_X2_requireFan rfl rfl rfl (by decide +kernel) ⟨Nat.le_of_ble_eq_true rfl, Nat.le_of_ble_eq_true rfl⟩) (kPreSX hK hN hX hP hD hS hA [] rfl rfl) rfl rfl hl.1 rfl (lv_room (Nat.le_of_ble_eq_true rfl)) dX2_setEffect_1 ⟨Nat.le_of_ble_eq_true rfl, Nat.le_of_ble_eq_true rfl⟩) (fun ce q9 H locs hP hD hS hce hcv hcl => ?_)
    subst hQ9
    subst hA9
    exact kOut hno hlocks hP hS hce hcv hcl (Nat.le_refl 1) (Nat.le_refl 6)

abbrev rxX2_setGains : Room := { frames := 7, cells := 1, slots := 6, locals := 112 }
set_option maxHeartbeats 4000000 in
set_option maxRecDepth 100000 in
/-- setGains_bad -/
theorem c_X2_setGains_bad (l : Launch) (hst : l.stackTraces = false) (D : va_G) (cI cZ cO cJ : ClassId) (x a t b : Nat → Nat) (ck : Nat) (Ho T E Dm F S : Nat → Int32) (C : Nat → Nat → Int32) (la : Nat) (T1 E1 D1 F1 S1 : Nat → Int32) (C1 : Nat → Nat → Int32) (la1 : Nat) (Lo Se : Nat → Int32) (Ef : Nat → Nat → Int32) (gp gi am li : Int32) (dl : Nat) (v w : Int32) (sz : Nat) (h : ¬ (inR v (nI 0) (nI 200) ∧ inR w (nI 0) (nI 200))) : kMxv l yX2_setGains wsX2_setGains rxX2_setGains D (kT cI cZ cO cJ) [.ref (x 0), .int v, .int w] (wC cI cZ cO x a t b ck Ho T E Dm F S C la T1 E1 D1 F1 S1 C1 la1 Lo Se Ef gp gi am li dl) sz nIAE := by
  refine kEnterX (cc := cX2_setGains) (maxL := 3) (ret := none) (by decide +kernel) rfl (Nat.le_of_ble_eq_true rfl) ?_
  intro p e s m below meth c args hx hb hr hml hts hown hlocks hno hK hN A hA9 Q hQ9 hP hD hsz hS hA hX ls hl
  have hl : lv_has ls 3 [(0, .ref (x 0)), (1, .int v), (2, .int w)] := hl
  have hi_X2 : ∀ w ∈ u_ws RX2 TX2 5, w ∈ wsX2_setGains := by decide +kernel
  obtain ⟨H, hH9⟩ : ∃ H, H = s.heap := ⟨_, rfl⟩
  rw [← hH9] at hP ⊢
  have hS : va_S A s.heap H [] := by rw [hH9]; exact va_S.rf
  by_cases g0 : inR v (nI 0) (nI 200)
  · have g1 : ¬ inR w (nI 0) (nI 200) := fun q => h ⟨g0, q⟩
    refine lv_iload_n hx hb dX2_setGains_0 rfl (lv_at hl 1 rfl) ?_
    refine lv_iconst (v := nI 0) hx hb dX2_setGains_1 (by decide +kernel) ?_
    refine lv_sipush (v := nI 200) hx hb dX2_setGains_2 (by decide +kernel) ?_
    refine kCall_v (W0 := []) (W1 := []) hP hD hS hA [] rfl rfl (va_runS (As := [.int v, .int (nI 0), .int (nI 200)]) (rest := []) ⟨hx, hb, hml, hown, hts⟩ (c_X2_requireWithin l D cI cZ cO cJ v (nI 0) (nI 200) H.size g0.1 g0.2) (va_cwS (rm := rmX2_requireWithin) 3 hts gX2_setGains_X2_requireWithin rfl rfl rfl (by decide +kernel) ⟨Nat.le_of_ble_eq_true rfl, Nat.le_of_ble_eq_true rfl⟩) (kPreS hK hN hP hD [] rfl rfl) rfl rfl hl.1 rfl (lv_room (Nat.le_of_ble_eq_true rfl)) dX2_setGains_5 ⟨Nat.zero_le _, Nat.zero_le _⟩) (fun H locs hP hD hS => ?_)
    have hP : va_P D vwCl (wC cI cZ cO x a t b ck Ho T E Dm F S C la T1 E1 D1 F1 S1 C1 la1 Lo Se Ef gp gi am li dl) H := hP
    have hD : va_D A (wC cI cZ cO x a t b ck Ho T E Dm F S C la T1 E1 D1 F1 S1 C1 la1 Lo Se Ef gp gi am li dl) := hD
    refine lv_iload_n hx hb dX2_setGains_8 rfl (lv_at hl 2 rfl) ?_
    refine lv_iconst (v := nI 0) hx hb dX2_setGains_9 (by decide +kernel) ?_
    refine lv_sipush (v := nI 200) hx hb dX2_setGains_10 (by decide +kernel) ?_
    refine kCallX_v hP hD hS hA [] rfl (vx_runS (As := [.int w, .int (nI 0), .int (nI 200)]) (rest := []) ⟨hx, hb, hml, hown, hts⟩ (c_X2_requireWithin_bad l hst D cI cZ cO cJ w (nI 0) (nI 200) H.size g1) (va_cwS (rm := rxX2_requireWithin) 3 hts gX2_setGains_X2_requireWithin rfl rfl rfl (by decide +kernel) ⟨Nat.le_of_ble_eq_true rfl, Nat.le_of_ble_eq_true rfl⟩) (kPreSX hK hN hX hP hD hS hA [] rfl rfl) rfl rfl hl.1 rfl (lv_room (Nat.le_of_ble_eq_true rfl)) dX2_setGains_13 ⟨Nat.le_of_ble_eq_true rfl, Nat.le_of_ble_eq_true rfl⟩) (fun ce q9 H locs hP hD hS hce hcv hcl => ?_)
    subst hQ9
    subst hA9
    exact kOut hno hlocks hP hS hce hcv hcl (Nat.le_refl 1) (Nat.le_refl 6)
  · refine lv_iload_n hx hb dX2_setGains_0 rfl (lv_at hl 1 rfl) ?_
    refine lv_iconst (v := nI 0) hx hb dX2_setGains_1 (by decide +kernel) ?_
    refine lv_sipush (v := nI 200) hx hb dX2_setGains_2 (by decide +kernel) ?_
    refine kCallX_v hP hD hS hA [] rfl (vx_runS (As := [.int v, .int (nI 0), .int (nI 200)]) (rest := []) ⟨hx, hb, hml, hown, hts⟩ (c_X2_requireWithin_bad l hst D cI cZ cO cJ v (nI 0) (nI 200) H.size g0) (va_cwS (rm := rxX2_requireWithin) 3 hts gX2_setGains_X2_requireWithin rfl rfl rfl (by decide +kernel) ⟨Nat.le_of_ble_eq_true rfl, Nat.le_of_ble_eq_true rfl⟩) (kPreSX hK hN hX hP hD hS hA [] rfl rfl) rfl rfl hl.1 rfl (lv_room (Nat.le_of_ble_eq_true rfl)) dX2_setGains_5 ⟨Nat.le_of_ble_eq_true rfl, Nat.le_of_ble_eq_true rfl⟩) (fun ce q9 H locs hP hD hS hce hcv hcl => ?_)
    subst hQ9
    subst hA9
    exact kOut hno hlocks hP hS hce hcv hcl (Nat.le_refl 1) (Nat.le_refl 6)

abbrev rxX2_setHall : Room := { frames := 7, cells := 1, slots := 6, locals := 112 }
set_option maxHeartbeats 4000000 in
set_option maxRecDepth 100000 in
/-- setHall_bad -/
theorem c_X2_setHall_bad (l : Launch) (hst : l.stackTraces = false) (D : va_G) (cI cZ cO cJ : ClassId) (x a t b : Nat → Nat) (ck : Nat) (Ho T E Dm F S : Nat → Int32) (C : Nat → Nat → Int32) (la : Nat) (T1 E1 D1 F1 S1 : Nat → Int32) (C1 : Nat → Nat → Int32) (la1 : Nat) (Lo Se : Nat → Int32) (Ef : Nat → Nat → Int32) (gp gi am li : Int32) (dl : Nat) (v w : Int32) (sz : Nat) (h : ¬ (inR v (nI 1000) (nI 5000) ∧ inR w (nI 1000) (nI 5000))) : kMxv l yX2_setHall wsX2_setHall rxX2_setHall D (kT cI cZ cO cJ) [.ref (x 0), .int v, .int w] (wC cI cZ cO x a t b ck Ho T E Dm F S C la T1 E1 D1 F1 S1 C1 la1 Lo Se Ef gp gi am li dl) sz nIAE := by
  refine kEnterX (cc := cX2_setHall) (maxL := 3) (ret := none) (by decide +kernel) rfl (Nat.le_of_ble_eq_true rfl) ?_
  intro p e s m below meth c args hx hb hr hml hts hown hlocks hno hK hN A hA9 Q hQ9 hP hD hsz hS hA hX ls hl
  have hl : lv_has ls 3 [(0, .ref (x 0)), (1, .int v), (2, .int w)] := hl
  have hi_X2 : ∀ w ∈ u_ws RX2 TX2 5, w ∈ wsX2_setHall := by decide +kernel
  obtain ⟨H, hH9⟩ : ∃ H, H = s.heap := ⟨_, rfl⟩
  rw [← hH9] at hP ⊢
  have hS : va_S A s.heap H [] := by rw [hH9]; exact va_S.rf
  by_cases g0 : inR v (nI 1000) (nI 5000)
  · have g1 : ¬ inR w (nI 1000) (nI 5000) := fun q => h ⟨g0, q⟩
    refine lv_iload_n hx hb dX2_setHall_0 rfl (lv_at hl 1 rfl) ?_
    refine lv_sipush (v := nI 1000) hx hb dX2_setHall_1 (by decide +kernel) ?_
    refine lv_sipush (v := nI 5000) hx hb dX2_setHall_4 (by decide +kernel) ?_
    refine kCall_v (W0 := []) (W1 := []) hP hD hS hA [] rfl rfl (va_runS (As := [.int v, .int (nI 1000), .int (nI 5000)]) (rest := []) ⟨hx, hb, hml, hown, hts⟩ (c_X2_requireWithin l D cI cZ cO cJ v (nI 1000) (nI 5000) H.size g0.1 g0.2) (va_cwS (rm := rmX2_requireWithin) 3 hts gX2_setHall_X2_requireWithin rfl rfl rfl (by decide +kernel) ⟨Nat.le_of_ble_eq_true rfl, Nat.le_of_ble_eq_true rfl⟩) (kPreS hK hN hP hD [] rfl rfl) rfl rfl hl.1 rfl (lv_room (Nat.le_of_ble_eq_true rfl)) dX2_setHall_7 ⟨Nat.zero_le _, Nat.zero_le _⟩) (fun H locs hP hD hS => ?_)
    have hP : va_P D vwCl (wC cI cZ cO x a t b ck Ho T E Dm F S C la T1 E1 D1 F1 S1 C1 la1 Lo Se Ef gp gi am li dl) H := hP
    have hD : va_D A (wC cI cZ cO x a t b ck Ho T E Dm F S C la T1 E1 D1 F1 S1 C1 la1 Lo Se Ef gp gi am li dl) := hD
    refine lv_iload_n hx hb dX2_setHall_10 rfl (lv_at hl 2 rfl) ?_
    refine lv_sipush (v := nI 1000) hx hb dX2_setHall_11 (by decide +kernel) ?_
    refine lv_sipush (v := nI 5000) hx hb dX2_setHall_14 (by decide +kernel) ?_
    refine kCallX_v hP hD hS hA [] rfl (vx_runS (As := [.int w, .int (nI 1000), .int (nI 5000)]) (rest := []) ⟨hx, hb, hml, hown, hts⟩ (c_X2_requireWithin_bad l hst D cI cZ cO cJ w (nI 1000) (nI 5000) H.size g1) (va_cwS (rm := rxX2_requireWithin) 3 hts gX2_setHall_X2_requireWithin rfl rfl rfl (by decide +kernel) ⟨Nat.le_of_ble_eq_true rfl, Nat.le_of_ble_eq_true rfl⟩) (kPreSX hK hN hX hP hD hS hA [] rfl rfl) rfl rfl hl.1 rfl (lv_room (Nat.le_of_ble_eq_true rfl)) dX2_setHall_17 ⟨Nat.le_of_ble_eq_true rfl, Nat.le_of_ble_eq_true rfl⟩) (fun ce q9 H locs hP hD hS hce hcv hcl => ?_)
    subst hQ9
    subst hA9
    exact kOut hno hlocks hP hS hce hcv hcl (Nat.le_refl 1) (Nat.le_refl 6)
  · refine lv_iload_n hx hb dX2_setHall_0 rfl (lv_at hl 1 rfl) ?_
    refine lv_sipush (v := nI 1000) hx hb dX2_setHall_1 (by decide +kernel) ?_
    refine lv_sipush (v := nI 5000) hx hb dX2_setHall_4 (by decide +kernel) ?_
    refine kCallX_v hP hD hS hA [] rfl (vx_runS (As := [.int v, .int (nI 1000), .int (nI 5000)]) (rest := []) ⟨hx, hb, hml, hown, hts⟩ (c_X2_requireWithin_bad l hst D cI cZ cO cJ v (nI 1000) (nI 5000) H.size g0) (va_cwS (rm := rxX2_requireWithin) 3 hts gX2_setHall_X2_requireWithin rfl rfl rfl (by decide +kernel) ⟨Nat.le_of_ble_eq_true rfl, Nat.le_of_ble_eq_true rfl⟩) (kPreSX hK hN hX hP hD hS hA [] rfl rfl) rfl rfl hl.1 rfl (lv_room (Nat.le_of_ble_eq_true rfl)) dX2_setHall_7 ⟨Nat.le_of_ble_eq_true rfl, Nat.le_of_ble_eq_true rfl⟩) (fun ce q9 H locs hP hD hS hce hcv hcl => ?_)
    subst hQ9
    subst hA9
    exact kOut hno hlocks hP hS hce hcv hcl (Nat.le_refl 1) (Nat.le_refl 6)

abbrev rxX2_setDelay : Room := { frames := 7, cells := 1, slots := 6, locals := 112 }
set_option maxHeartbeats 4000000 in
set_option maxRecDepth 100000 in
/-- setDelay_bad -/
theorem c_X2_setDelay_bad (l : Launch) (hst : l.stackTraces = false) (D : va_G) (cI cZ cO cJ : ClassId) (x a t b : Nat → Nat) (ck : Nat) (Ho T E Dm F S : Nat → Int32) (C : Nat → Nat → Int32) (la : Nat) (T1 E1 D1 F1 S1 : Nat → Int32) (C1 : Nat → Nat → Int32) (la1 : Nat) (Lo Se : Nat → Int32) (Ef : Nat → Nat → Int32) (gp gi am li : Int32) (dl : Nat) (v : Int32) (sz : Nat) (h : ¬ inR v (nI 0) (nI 8)) : kMxi l yX2_setDelay wsX2_setDelay rxX2_setDelay D (kT cI cZ cO cJ) [.ref (x 0), .int v] (wC cI cZ cO x a t b ck Ho T E Dm F S C la T1 E1 D1 F1 S1 C1 la1 Lo Se Ef gp gi am li dl) sz nIAE := by
  refine kEnterX (cc := cX2_setDelay) (maxL := 3) (ret := some .int) (by decide +kernel) rfl (Nat.le_of_ble_eq_true rfl) ?_
  intro p e s m below meth c args hx hb hr hml hts hown hlocks hno hK hN A hA9 Q hQ9 hP hD hsz hS hA hX ls hl
  have hl : lv_has ls 3 [(0, .ref (x 0)), (1, .int v)] := hl
  have hi_X2 : ∀ w ∈ u_ws RX2 TX2 5, w ∈ wsX2_setDelay := by decide +kernel
  obtain ⟨H, hH9⟩ : ∃ H, H = s.heap := ⟨_, rfl⟩
  rw [← hH9] at hP ⊢
  have hS : va_S A s.heap H [] := by rw [hH9]; exact va_S.rf
  refine lv_iload_n hx hb dX2_setDelay_0 rfl (lv_at hl 1 rfl) ?_
  refine lv_iconst (v := nI 0) hx hb dX2_setDelay_1 (by decide +kernel) ?_
  refine lv_bipush (v := nI 8) hx hb dX2_setDelay_2 (by decide +kernel) ?_
  refine kCallX_v hP hD hS hA [] rfl (vx_runS (As := [.int v, .int (nI 0), .int (nI 8)]) (rest := []) ⟨hx, hb, hml, hown, hts⟩ (c_X2_requireWithin_bad l hst D cI cZ cO cJ v (nI 0) (nI 8) H.size h) (va_cwS (rm := rxX2_requireWithin) 3 hts gX2_setDelay_X2_requireWithin rfl rfl rfl (by decide +kernel) ⟨Nat.le_of_ble_eq_true rfl, Nat.le_of_ble_eq_true rfl⟩) (kPreSX hK hN hX hP hD hS hA [] rfl rfl) rfl rfl hl.1 rfl (lv_room (Nat.le_of_ble_eq_true rfl)) dX2_setDelay_4 ⟨Nat.le_of_ble_eq_true rfl, Nat.le_of_ble_eq_true rfl⟩) (fun ce q9 H locs hP hD hS hce hcv hcl => ?_)
  subst hQ9
  subst hA9
  exact kOut hno hlocks hP hS hce hcv hcl (Nat.le_refl 1) (Nat.le_refl 6)

abbrev rxX2_fail : Room := { frames := 8, cells := 1, slots := 6, locals := 132 }
set_option maxHeartbeats 4000000 in
set_option maxRecDepth 100000 in
/-- fail_bad -/
theorem c_X2_fail_bad (l : Launch) (hst : l.stackTraces = false) (D : va_G) (cI cZ cO cJ : ClassId) (x a t b : Nat → Nat) (ck : Nat) (Ho T E Dm F S : Nat → Int32) (C : Nat → Nat → Int32) (la : Nat) (T1 E1 D1 F1 S1 : Nat → Int32) (C1 : Nat → Nat → Int32) (la1 : Nat) (Lo Se : Nat → Int32) (Ef : Nat → Nat → Int32) (gp gi am li : Int32) (dl : Nat) (v : Int32) (sz : Nat) (h : ¬ inR v (nI 0) (nI 7)) : kMxi l yX2_fail wsX2_fail rxX2_fail D (kT cI cZ cO cJ) [.ref (x 0), .int v] (wC cI cZ cO x a t b ck Ho T E Dm F S C la T1 E1 D1 F1 S1 C1 la1 Lo Se Ef gp gi am li dl) sz nIAE := by
  refine kEnterX (cc := cX2_fail) (maxL := 2) (ret := some .int) (by decide +kernel) rfl (Nat.le_of_ble_eq_true rfl) ?_
  intro p e s m below meth c args hx hb hr hml hts hown hlocks hno hK hN A hA9 Q hQ9 hP hD hsz hS hA hX ls hl
  have hl : lv_has ls 2 [(0, .ref (x 0)), (1, .int v)] := hl
  have hi_X2 : ∀ w ∈ u_ws RX2 TX2 5, w ∈ wsX2_fail := by decide +kernel
  obtain ⟨H, hH9⟩ : ∃ H, H = s.heap := ⟨_, rfl⟩
  rw [← hH9] at hP ⊢
  have hS : va_S A s.heap H [] := by rw [hH9]; exact va_S.rf
  refine lv_iload_n hx hb dX2_fail_0 rfl (lv_at hl 1 rfl) ?_
  refine kCallX_v hP hD hS hA [] rfl (vx_runS (As := [.int v]) (rest := []) ⟨hx, hb, hml, hown, hts⟩ (c_X2_requireFan_bad l hst D cI cZ cO cJ v H.size h) (va_cwS (rm := rxX2_requireFan) 1 hts gX2_fail_X2_requireFan rfl rfl rfl (by decide +kernel) ⟨Nat.le_of_ble_eq_true rfl, Nat.le_of_ble_eq_true rfl⟩) (kPreSX hK hN hX hP hD hS hA [] rfl rfl) rfl rfl hl.1 rfl (lv_room (Nat.le_of_ble_eq_true rfl)) dX2_fail_1 ⟨Nat.le_of_ble_eq_true rfl, Nat.le_of_ble_eq_true rfl⟩) (fun ce q9 H locs hP hD hS hce hcv hcl => ?_)
  subst hQ9
  subst hA9
  exact kOut hno hlocks hP hS hce hcv hcl (Nat.le_refl 1) (Nat.le_refl 6)

abbrev rxX2_repair : Room := { frames := 8, cells := 1, slots := 6, locals := 132 }
set_option maxHeartbeats 4000000 in
set_option maxRecDepth 100000 in
/-- repair_bad -/
theorem c_X2_repair_bad (l : Launch) (hst : l.stackTraces = false) (D : va_G) (cI cZ cO cJ : ClassId) (x a t b : Nat → Nat) (ck : Nat) (Ho T E Dm F S : Nat → Int32) (C : Nat → Nat → Int32) (la : Nat) (T1 E1 D1 F1 S1 : Nat → Int32) (C1 : Nat → Nat → Int32) (la1 : Nat) (Lo Se : Nat → Int32) (Ef : Nat → Nat → Int32) (gp gi am li : Int32) (dl : Nat) (v : Int32) (sz : Nat) (h : ¬ inR v (nI 0) (nI 7)) : kMxi l yX2_repair wsX2_repair rxX2_repair D (kT cI cZ cO cJ) [.ref (x 0), .int v] (wC cI cZ cO x a t b ck Ho T E Dm F S C la T1 E1 D1 F1 S1 C1 la1 Lo Se Ef gp gi am li dl) sz nIAE := by
  refine kEnterX (cc := cX2_repair) (maxL := 2) (ret := some .int) (by decide +kernel) rfl (Nat.le_of_ble_eq_true rfl) ?_
  intro p e s m below meth c args hx hb hr hml hts hown hlocks hno hK hN A hA9 Q hQ9 hP hD hsz hS hA hX ls hl
  have hl : lv_has ls 2 [(0, .ref (x 0)), (1, .int v)] := hl
  have hi_X2 : ∀ w ∈ u_ws RX2 TX2 5, w ∈ wsX2_repair := by decide +kernel
  obtain ⟨H, hH9⟩ : ∃ H, H = s.heap := ⟨_, rfl⟩
  rw [← hH9] at hP ⊢
  have hS : va_S A s.heap H [] := by rw [hH9]; exact va_S.rf
  refine lv_iload_n hx hb dX2_repair_0 rfl (lv_at hl 1 rfl) ?_
  refine kCallX_v hP hD hS hA [] rfl (vx_runS (As := [.int v]) (rest := []) ⟨hx, hb, hml, hown, hts⟩ (c_X2_requireFan_bad l hst D cI cZ cO cJ v H.size h) (va_cwS (rm := rxX2_requireFan) 1 hts gX2_repair_X2_requireFan rfl rfl rfl (by decide +kernel) ⟨Nat.le_of_ble_eq_true rfl, Nat.le_of_ble_eq_true rfl⟩) (kPreSX hK hN hX hP hD hS hA [] rfl rfl) rfl rfl hl.1 rfl (lv_room (Nat.le_of_ble_eq_true rfl)) dX2_repair_1 ⟨Nat.le_of_ble_eq_true rfl, Nat.le_of_ble_eq_true rfl⟩) (fun ce q9 H locs hP hD hS hce hcv hcl => ?_)
  subst hQ9
  subst hA9
  exact kOut hno hlocks hP hS hce hcv hcl (Nat.le_refl 1) (Nat.le_refl 6)

abbrev rxX2_command : Room := { frames := 8, cells := 1, slots := 6, locals := 132 }
set_option maxHeartbeats 4000000 in
set_option maxRecDepth 100000 in
/-- command_bad -/
theorem c_X2_command_bad (l : Launch) (hst : l.stackTraces = false) (D : va_G) (cI cZ cO cJ : ClassId) (x a t b : Nat → Nat) (ck : Nat) (Ho T E Dm F S : Nat → Int32) (C : Nat → Nat → Int32) (la : Nat) (T1 E1 D1 F1 S1 : Nat → Int32) (C1 : Nat → Nat → Int32) (la1 : Nat) (Lo Se : Nat → Int32) (Ef : Nat → Nat → Int32) (gp gi am li : Int32) (dl : Nat) (v : Int32) (sz : Nat) (h : ¬ inR v (nI 0) (nI 7)) : kMxi l yX2_command wsX2_command rxX2_command D (kT cI cZ cO cJ) [.ref (x 0), .int v] (wC cI cZ cO x a t b ck Ho T E Dm F S C la T1 E1 D1 F1 S1 C1 la1 Lo Se Ef gp gi am li dl) sz nIAE := by
  refine kEnterX (cc := cX2_command) (maxL := 2) (ret := some .int) (by decide +kernel) rfl (Nat.le_of_ble_eq_true rfl) ?_
  intro p e s m below meth c args hx hb hr hml hts hown hlocks hno hK hN A hA9 Q hQ9 hP hD hsz hS hA hX ls hl
  have hl : lv_has ls 2 [(0, .ref (x 0)), (1, .int v)] := hl
  have hi_X2 : ∀ w ∈ u_ws RX2 TX2 5, w ∈ wsX2_command := by decide +kernel
  obtain ⟨H, hH9⟩ : ∃ H, H = s.heap := ⟨_, rfl⟩
  rw [← hH9] at hP ⊢
  have hS : va_S A s.heap H [] := by rw [hH9]; exact va_S.rf
  refine lv_iload_n hx hb dX2_command_0 rfl (lv_at hl 1 rfl) ?_
  refine kCallX_v hP hD hS hA [] rfl (vx_runS (As := [.int v]) (rest := []) ⟨hx, hb, hml, hown, hts⟩ (c_X2_requireFan_bad l hst D cI cZ cO cJ v H.size h) (va_cwS (rm := rxX2_requireFan) 1 hts gX2_command_X2_requireFan rfl rfl rfl (by decide +kernel) ⟨Nat.le_of_ble_eq_true rfl, Nat.le_of_ble_eq_true rfl⟩) (kPreSX hK hN hX hP hD hS hA [] rfl rfl) rfl rfl hl.1 rfl (lv_room (Nat.le_of_ble_eq_true rfl)) dX2_command_1 ⟨Nat.le_of_ble_eq_true rfl, Nat.le_of_ble_eq_true rfl⟩) (fun ce q9 H locs hP hD hS hce hcv hcl => ?_)
  subst hQ9
  subst hA9
  exact kOut hno hlocks hP hS hce hcv hcl (Nat.le_refl 1) (Nat.le_refl 6)

abbrev rxX2_speed : Room := { frames := 8, cells := 1, slots := 6, locals := 132 }
set_option maxHeartbeats 4000000 in
set_option maxRecDepth 100000 in
/-- speed_bad -/
theorem c_X2_speed_bad (l : Launch) (hst : l.stackTraces = false) (D : va_G) (cI cZ cO cJ : ClassId) (x a t b : Nat → Nat) (ck : Nat) (Ho T E Dm F S : Nat → Int32) (C : Nat → Nat → Int32) (la : Nat) (T1 E1 D1 F1 S1 : Nat → Int32) (C1 : Nat → Nat → Int32) (la1 : Nat) (Lo Se : Nat → Int32) (Ef : Nat → Nat → Int32) (gp gi am li : Int32) (dl : Nat) (v : Int32) (sz : Nat) (h : ¬ inR v (nI 0) (nI 7)) : kMxi l yX2_speed wsX2_speed rxX2_speed D (kT cI cZ cO cJ) [.ref (x 0), .int v] (wC cI cZ cO x a t b ck Ho T E Dm F S C la T1 E1 D1 F1 S1 C1 la1 Lo Se Ef gp gi am li dl) sz nIAE := by
  refine kEnterX (cc := cX2_speed) (maxL := 2) (ret := some .int) (by decide +kernel) rfl (Nat.le_of_ble_eq_true rfl) ?_
  intro p e s m below meth c args hx hb hr hml hts hown hlocks hno hK hN A hA9 Q hQ9 hP hD hsz hS hA hX ls hl
  have hl : lv_has ls 2 [(0, .ref (x 0)), (1, .int v)] := hl
  have hi_X2 : ∀ w ∈ u_ws RX2 TX2 5, w ∈ wsX2_speed := by decide +kernel
  obtain ⟨H, hH9⟩ : ∃ H, H = s.heap := ⟨_, rfl⟩
  rw [← hH9] at hP ⊢
  have hS : va_S A s.heap H [] := by rw [hH9]; exact va_S.rf
  refine lv_iload_n hx hb dX2_speed_0 rfl (lv_at hl 1 rfl) ?_
  refine kCallX_v hP hD hS hA [] rfl (vx_runS (As := [.int v]) (rest := []) ⟨hx, hb, hml, hown, hts⟩ (c_X2_requireFan_bad l hst D cI cZ cO cJ v H.size h) (va_cwS (rm := rxX2_requireFan) 1 hts gX2_speed_X2_requireFan rfl rfl rfl (by decide +kernel) ⟨Nat.le_of_ble_eq_true rfl, Nat.le_of_ble_eq_true rfl⟩) (kPreSX hK hN hX hP hD hS hA [] rfl rfl) rfl rfl hl.1 rfl (lv_room (Nat.le_of_ble_eq_true rfl)) dX2_speed_1 ⟨Nat.le_of_ble_eq_true rfl, Nat.le_of_ble_eq_true rfl⟩) (fun ce q9 H locs hP hD hS hce hcv hcl => ?_)
  subst hQ9
  subst hA9
  exact kOut hno hlocks hP hS hce hcv hcl (Nat.le_refl 1) (Nat.le_refl 6)

set_option maxRecDepth 100000 in
theorem kmem_fail_81 : ∀ w ∈ (vx_atS RX2 81 "java/lang/IllegalStateException" ["java/lang/RuntimeException", "java/lang/Exception"]).filter goodWord, w ∈ wsX2_fail := fun w h => List.mem_cons_of_mem _ (List.mem_append_left _ (List.mem_append_right _ h))
set_option maxHeartbeats 4000000 in
set_option maxRecDepth 100000 in
/-- fail_two -/
theorem c_X2_fail_two (l : Launch) (hst : l.stackTraces = false) (D : va_G) (cI cZ cO cJ : ClassId) (x a t b : Nat → Nat) (ck : Nat) (Ho T E Dm F S : Nat → Int32) (C : Nat → Nat → Int32) (la : Nat) (T1 E1 D1 F1 S1 : Nat → Int32) (C1 : Nat → Nat → Int32) (la1 : Nat) (Lo Se : Nat → Int32) (Ef : Nat → Nat → Int32) (gp gi am li : Int32) (dl : Nat) (f : Nat) (sz : Nat) (hf : f < 8) (hF : ¬ F f = 0) : kMxi l yX2_fail wsX2_fail rxX2_fail D (kT cI cZ cO cJ) [.ref (x 0), .int (nI f)] (wC cI cZ cO x a t b ck Ho T E Dm F S C la T1 E1 D1 F1 S1 C1 la1 Lo Se Ef gp gi am li dl) sz nISE := by
  refine kEnterX (cc := cX2_fail) (maxL := 2) (ret := some .int) (by decide +kernel) rfl (Nat.le_of_ble_eq_true rfl) ?_
  intro p e s m below meth c args hx hb hr hml hts hown hlocks hno hK hN A hA9 Q hQ9 hP hD hsz hS hA hX ls hl
  have hl : lv_has ls 2 [(0, .ref (x 0)), (1, .int (nI f))] := hl
  have hi_X2 : ∀ w ∈ u_ws RX2 TX2 5, w ∈ wsX2_fail := by decide +kernel
  have hi_X0 : ∀ w ∈ u_ws RX0 TX0 7, w ∈ wsX2_fail := by decide +kernel
  obtain ⟨H, hH9⟩ : ∃ H, H = s.heap := ⟨_, rfl⟩
  rw [← hH9] at hP ⊢
  have hS : va_S A s.heap H [] := by rw [hH9]; exact va_S.rf
  refine lv_iload_n hx hb dX2_fail_0 rfl (lv_at hl 1 rfl) ?_
  refine kCall_v (W0 := []) (W1 := []) hP hD hS hA [] rfl rfl (va_runS (As := [.int (nI f)]) (rest := []) ⟨hx, hb, hml, hown, hts⟩ (c_X2_requireFan l D cI cZ cO cJ (nI f) H.size (nI_nlt (by omega) (by omega)) (nI_le (by omega) (by decide))) (va_cwS (rm := rmX2_requireFan) 1 hts gX2_fail_X2_requireFan rfl rfl rfl (by decide +kernel) ⟨Nat.le_of_ble_eq_true rfl, Nat.le_of_ble_eq_true rfl⟩) (kPreS hK hN hP hD [] rfl rfl) rfl rfl hl.1 rfl (lv_room (Nat.le_of_ble_eq_true rfl)) dX2_fail_1 ⟨Nat.zero_le _, Nat.zero_le _⟩) (fun H locs hP hD hS => ?_)
  have hP : va_P D vwCl (wC cI cZ cO x a t b ck Ho T E Dm F S C la T1 E1 D1 F1 S1 C1 la1 Lo Se Ef gp gi am li dl) H := hP
  have hD : va_D A (wC cI cZ cO x a t b ck Ho T E Dm F S C la T1 E1 D1 F1 S1 C1 la1 Lo Se Ef gp gi am li dl) := hD
  refine lv_aload_n hx hb dX2_fail_4 rfl (lv_at hl 0 rfl) ?_
  refine va_get (D := D) (ci := 2) (v := .ref (a 0)) (C := RX2) (T := TX2) (N := 5) hx hb hts hi_X2 hown hK hP 0 rfl rfl 1 (by decide) (hts (.fieldLink RX2 19 "Coldaisle" "hall" "LColdaisle$Hall;") (by decide +kernel)) (fun _ h9 => h9) rfl dX2_fail_5 ?_
  refine va_get (D := D) (ci := 0) (v := .ref (a 4)) (C := RX0) (T := TX0) (N := 7) hx hb hts hi_X0 hown hK hP 2 rfl rfl 3 (by decide) (hts (.fieldLink RX2 73 "Coldaisle$Hall" "failed" "[Z") (by decide +kernel)) (fun _ h9 => h9) rfl dX2_fail_8 ?_
  refine lv_iload_n hx hb dX2_fail_11 rfl (lv_at hl 1 rfl) ?_
  refine k_zald hx hb hK hP 6 1 rfl rfl (i := f) (by omega) (by decide) dX2_fail_12 ?_
  refine lv_if_eq (tgt := 26) hx hb dX2_fail_13 (by decide) (fun c9 => absurd c9 hF) (fun _ => ?_)
  obtain ⟨sa, hsa⟩ := hX.2.2.2.1
  subst hQ9
  subst hA9
  have hgw : ∀ w ∈ (vx_atS RX2 81 "java/lang/IllegalStateException" ["java/lang/RuntimeException", "java/lang/Exception"]).filter goodWord, w.before args s = true := fun w h => hts w (kmem_fail_81 w h)
  exact kThrow hx hb hst hown (by decide +kernel) (by decide +kernel) (hts (.classLink RX2 77 "java/lang/IllegalStateException") (by decide +kernel)) (hts (.initialized "java/lang/IllegalStateException") (by decide +kernel)) hsa (vx_hat (B := xB_ise) hgw (fun w h => h) (kXw.use xB_ise_ok hX.2.2.2.2.2.2.2)) xg_ise hX hP hS (hl.1.trans hml.symm) dX2_fail_16 dX2_fail_19 dX2_fail_20 dX2_fail_22 dX2_fail_25 hno (by decide) (Nat.le_of_ble_eq_true rfl) (Nat.le_of_ble_eq_true rfl) (Nat.le_of_ble_eq_true rfl) hlocks

set_option maxRecDepth 100000 in
theorem kmem_repair_81 : ∀ w ∈ (vx_atS RX2 81 "java/lang/IllegalStateException" ["java/lang/RuntimeException", "java/lang/Exception"]).filter goodWord, w ∈ wsX2_repair := fun w h => List.mem_cons_of_mem _ (List.mem_append_left _ (List.mem_append_right _ h))
set_option maxHeartbeats 4000000 in
set_option maxRecDepth 100000 in
/-- repair_two -/
theorem c_X2_repair_two (l : Launch) (hst : l.stackTraces = false) (D : va_G) (cI cZ cO cJ : ClassId) (x a t b : Nat → Nat) (ck : Nat) (Ho T E Dm F S : Nat → Int32) (C : Nat → Nat → Int32) (la : Nat) (T1 E1 D1 F1 S1 : Nat → Int32) (C1 : Nat → Nat → Int32) (la1 : Nat) (Lo Se : Nat → Int32) (Ef : Nat → Nat → Int32) (gp gi am li : Int32) (dl : Nat) (f : Nat) (sz : Nat) (hf : f < 8) (hF : F f = 0) : kMxi l yX2_repair wsX2_repair rxX2_repair D (kT cI cZ cO cJ) [.ref (x 0), .int (nI f)] (wC cI cZ cO x a t b ck Ho T E Dm F S C la T1 E1 D1 F1 S1 C1 la1 Lo Se Ef gp gi am li dl) sz nISE := by
  refine kEnterX (cc := cX2_repair) (maxL := 2) (ret := some .int) (by decide +kernel) rfl (Nat.le_of_ble_eq_true rfl) ?_
  intro p e s m below meth c args hx hb hr hml hts hown hlocks hno hK hN A hA9 Q hQ9 hP hD hsz hS hA hX ls hl
  have hl : lv_has ls 2 [(0, .ref (x 0)), (1, .int (nI f))] := hl
  have hi_X2 : ∀ w ∈ u_ws RX2 TX2 5, w ∈ wsX2_repair := by decide +kernel
  have hi_X0 : ∀ w ∈ u_ws RX0 TX0 7, w ∈ wsX2_repair := by decide +kernel
  obtain ⟨H, hH9⟩ : ∃ H, H = s.heap := ⟨_, rfl⟩
  rw [← hH9] at hP ⊢
  have hS : va_S A s.heap H [] := by rw [hH9]; exact va_S.rf
  refine lv_iload_n hx hb dX2_repair_0 rfl (lv_at hl 1 rfl) ?_
  refine kCall_v (W0 := []) (W1 := []) hP hD hS hA [] rfl rfl (va_runS (As := [.int (nI f)]) (rest := []) ⟨hx, hb, hml, hown, hts⟩ (c_X2_requireFan l D cI cZ cO cJ (nI f) H.size (nI_nlt (by omega) (by omega)) (nI_le (by omega) (by decide))) (va_cwS (rm := rmX2_requireFan) 1 hts gX2_repair_X2_requireFan rfl rfl rfl (by decide +kernel) ⟨Nat.le_of_ble_eq_true rfl, Nat.le_of_ble_eq_true rfl⟩) (kPreS hK hN hP hD [] rfl rfl) rfl rfl hl.1 rfl (lv_room (Nat.le_of_ble_eq_true rfl)) dX2_repair_1 ⟨Nat.zero_le _, Nat.zero_le _⟩) (fun H locs hP hD hS => ?_)
  have hP : va_P D vwCl (wC cI cZ cO x a t b ck Ho T E Dm F S C la T1 E1 D1 F1 S1 C1 la1 Lo Se Ef gp gi am li dl) H := hP
  have hD : va_D A (wC cI cZ cO x a t b ck Ho T E Dm F S C la T1 E1 D1 F1 S1 C1 la1 Lo Se Ef gp gi am li dl) := hD
  refine lv_aload_n hx hb dX2_repair_4 rfl (lv_at hl 0 rfl) ?_
  refine va_get (D := D) (ci := 2) (v := .ref (a 0)) (C := RX2) (T := TX2) (N := 5) hx hb hts hi_X2 hown hK hP 0 rfl rfl 1 (by decide) (hts (.fieldLink RX2 19 "Coldaisle" "hall" "LColdaisle$Hall;") (by decide +kernel)) (fun _ h9 => h9) rfl dX2_repair_5 ?_
  refine va_get (D := D) (ci := 0) (v := .ref (a 4)) (C := RX0) (T := TX0) (N := 7) hx hb hts hi_X0 hown hK hP 2 rfl rfl 3 (by decide) (hts (.fieldLink RX2 73 "Coldaisle$Hall" "failed" "[Z") (by decide +kernel)) (fun _ h9 => h9) rfl dX2_repair_8 ?_
  refine lv_iload_n hx hb dX2_repair_11 rfl (lv_at hl 1 rfl) ?_
  refine k_zald hx hb hK hP 6 1 rfl rfl (i := f) (by omega) (by decide) dX2_repair_12 ?_
  refine lv_if_ne (tgt := 26) hx hb dX2_repair_13 (by decide) (fun c9 => absurd hF c9) (fun _ => ?_)
  obtain ⟨sa, hsa⟩ := hX.2.2.2.2.1
  subst hQ9
  subst hA9
  have hgw : ∀ w ∈ (vx_atS RX2 81 "java/lang/IllegalStateException" ["java/lang/RuntimeException", "java/lang/Exception"]).filter goodWord, w.before args s = true := fun w h => hts w (kmem_repair_81 w h)
  exact kThrow hx hb hst hown (by decide +kernel) (by decide +kernel) (hts (.classLink RX2 77 "java/lang/IllegalStateException") (by decide +kernel)) (hts (.initialized "java/lang/IllegalStateException") (by decide +kernel)) hsa (vx_hat (B := xB_ise) hgw (fun w h => h) (kXw.use xB_ise_ok hX.2.2.2.2.2.2.2)) xg_ise hX hP hS (hl.1.trans hml.symm) dX2_repair_16 dX2_repair_19 dX2_repair_20 dX2_repair_22 dX2_repair_25 hno (by decide) (Nat.le_of_ble_eq_true rfl) (Nat.le_of_ble_eq_true rfl) (Nat.le_of_ble_eq_true rfl) hlocks

abbrev rxX2_temperature : Room := { frames := 8, cells := 1, slots := 6, locals := 132 }
set_option maxHeartbeats 4000000 in
set_option maxRecDepth 100000 in
/-- temperature_bad -/
theorem c_X2_temperature_bad (l : Launch) (hst : l.stackTraces = false) (D : va_G) (cI cZ cO cJ : ClassId) (x a t b : Nat → Nat) (ck : Nat) (Ho T E Dm F S : Nat → Int32) (C : Nat → Nat → Int32) (la : Nat) (T1 E1 D1 F1 S1 : Nat → Int32) (C1 : Nat → Nat → Int32) (la1 : Nat) (Lo Se : Nat → Int32) (Ef : Nat → Nat → Int32) (gp gi am li : Int32) (dl : Nat) (v : Int32) (sz : Nat) (h : ¬ inR v (nI 0) (nI 5)) : kMxi l yX2_temperature wsX2_temperature rxX2_temperature D (kT cI cZ cO cJ) [.ref (x 0), .int v] (wC cI cZ cO x a t b ck Ho T E Dm F S C la T1 E1 D1 F1 S1 C1 la1 Lo Se Ef gp gi am li dl) sz nIAE := by
  refine kEnterX (cc := cX2_temperature) (maxL := 2) (ret := some .int) (by decide +kernel) rfl (Nat.le_of_ble_eq_true rfl) ?_
  intro p e s m below meth c args hx hb hr hml hts hown hlocks hno hK hN A hA9 Q hQ9 hP hD hsz hS hA hX ls hl
  have hl : lv_has ls 2 [(0, .ref (x 0)), (1, .int v)] := hl
  have hi_X2 : ∀ w ∈ u_ws RX2 TX2 5, w ∈ wsX2_temperature := by decide +kernel
  obtain ⟨H, hH9⟩ : ∃ H, H = s.heap := ⟨_, rfl⟩
  rw [← hH9] at hP ⊢
  have hS : va_S A s.heap H [] := by rw [hH9]; exact va_S.rf
  refine lv_iload_n hx hb dX2_temperature_0 rfl (lv_at hl 1 rfl) ?_
  refine kCallX_v hP hD hS hA [] rfl (vx_runS (As := [.int v]) (rest := []) ⟨hx, hb, hml, hown, hts⟩ (c_X2_requireZone_bad l hst D cI cZ cO cJ v H.size h) (va_cwS (rm := rxX2_requireZone) 1 hts gX2_temperature_X2_requireZone rfl rfl rfl (by decide +kernel) ⟨Nat.le_of_ble_eq_true rfl, Nat.le_of_ble_eq_true rfl⟩) (kPreSX hK hN hX hP hD hS hA [] rfl rfl) rfl rfl hl.1 rfl (lv_room (Nat.le_of_ble_eq_true rfl)) dX2_temperature_1 ⟨Nat.le_of_ble_eq_true rfl, Nat.le_of_ble_eq_true rfl⟩) (fun ce q9 H locs hP hD hS hce hcv hcl => ?_)
  subst hQ9
  subst hA9
  exact kOut hno hlocks hP hS hce hcv hcl (Nat.le_refl 1) (Nat.le_refl 6)

abbrev rxX2_demand : Room := { frames := 8, cells := 1, slots := 6, locals := 132 }
set_option maxHeartbeats 4000000 in
set_option maxRecDepth 100000 in
/-- demand_bad -/
theorem c_X2_demand_bad (l : Launch) (hst : l.stackTraces = false) (D : va_G) (cI cZ cO cJ : ClassId) (x a t b : Nat → Nat) (ck : Nat) (Ho T E Dm F S : Nat → Int32) (C : Nat → Nat → Int32) (la : Nat) (T1 E1 D1 F1 S1 : Nat → Int32) (C1 : Nat → Nat → Int32) (la1 : Nat) (Lo Se : Nat → Int32) (Ef : Nat → Nat → Int32) (gp gi am li : Int32) (dl : Nat) (v : Int32) (sz : Nat) (h : ¬ inR v (nI 0) (nI 5)) : kMxi l yX2_demand wsX2_demand rxX2_demand D (kT cI cZ cO cJ) [.ref (x 0), .int v] (wC cI cZ cO x a t b ck Ho T E Dm F S C la T1 E1 D1 F1 S1 C1 la1 Lo Se Ef gp gi am li dl) sz nIAE := by
  refine kEnterX (cc := cX2_demand) (maxL := 2) (ret := some .int) (by decide +kernel) rfl (Nat.le_of_ble_eq_true rfl) ?_
  intro p e s m below meth c args hx hb hr hml hts hown hlocks hno hK hN A hA9 Q hQ9 hP hD hsz hS hA hX ls hl
  have hl : lv_has ls 2 [(0, .ref (x 0)), (1, .int v)] := hl
  have hi_X2 : ∀ w ∈ u_ws RX2 TX2 5, w ∈ wsX2_demand := by decide +kernel
  obtain ⟨H, hH9⟩ : ∃ H, H = s.heap := ⟨_, rfl⟩
  rw [← hH9] at hP ⊢
  have hS : va_S A s.heap H [] := by rw [hH9]; exact va_S.rf
  refine lv_iload_n hx hb dX2_demand_0 rfl (lv_at hl 1 rfl) ?_
  refine kCallX_v hP hD hS hA [] rfl (vx_runS (As := [.int v]) (rest := []) ⟨hx, hb, hml, hown, hts⟩ (c_X2_requireZone_bad l hst D cI cZ cO cJ v H.size h) (va_cwS (rm := rxX2_requireZone) 1 hts gX2_demand_X2_requireZone rfl rfl rfl (by decide +kernel) ⟨Nat.le_of_ble_eq_true rfl, Nat.le_of_ble_eq_true rfl⟩) (kPreSX hK hN hX hP hD hS hA [] rfl rfl) rfl rfl hl.1 rfl (lv_room (Nat.le_of_ble_eq_true rfl)) dX2_demand_1 ⟨Nat.le_of_ble_eq_true rfl, Nat.le_of_ble_eq_true rfl⟩) (fun ce q9 H locs hP hD hS hce hcv hcl => ?_)
  subst hQ9
  subst hA9
  exact kOut hno hlocks hP hS hce hcv hcl (Nat.le_refl 1) (Nat.le_refl 6)

abbrev rxX2_errors : Room := { frames := 8, cells := 1, slots := 6, locals := 132 }
set_option maxHeartbeats 4000000 in
set_option maxRecDepth 100000 in
/-- errors_bad -/
theorem c_X2_errors_bad (l : Launch) (hst : l.stackTraces = false) (D : va_G) (cI cZ cO cJ : ClassId) (x a t b : Nat → Nat) (ck : Nat) (Ho T E Dm F S : Nat → Int32) (C : Nat → Nat → Int32) (la : Nat) (T1 E1 D1 F1 S1 : Nat → Int32) (C1 : Nat → Nat → Int32) (la1 : Nat) (Lo Se : Nat → Int32) (Ef : Nat → Nat → Int32) (gp gi am li : Int32) (dl : Nat) (v : Int32) (sz : Nat) (h : ¬ inR v (nI 0) (nI 5)) : kMxi l yX2_errors wsX2_errors rxX2_errors D (kT cI cZ cO cJ) [.ref (x 0), .int v] (wC cI cZ cO x a t b ck Ho T E Dm F S C la T1 E1 D1 F1 S1 C1 la1 Lo Se Ef gp gi am li dl) sz nIAE := by
  refine kEnterX (cc := cX2_errors) (maxL := 2) (ret := some .int) (by decide +kernel) rfl (Nat.le_of_ble_eq_true rfl) ?_
  intro p e s m below meth c args hx hb hr hml hts hown hlocks hno hK hN A hA9 Q hQ9 hP hD hsz hS hA hX ls hl
  have hl : lv_has ls 2 [(0, .ref (x 0)), (1, .int v)] := hl
  have hi_X2 : ∀ w ∈ u_ws RX2 TX2 5, w ∈ wsX2_errors := by decide +kernel
  obtain ⟨H, hH9⟩ : ∃ H, H = s.heap := ⟨_, rfl⟩
  rw [← hH9] at hP ⊢
  have hS : va_S A s.heap H [] := by rw [hH9]; exact va_S.rf
  refine lv_iload_n hx hb dX2_errors_0 rfl (lv_at hl 1 rfl) ?_
  refine kCallX_v hP hD hS hA [] rfl (vx_runS (As := [.int v]) (rest := []) ⟨hx, hb, hml, hown, hts⟩ (c_X2_requireZone_bad l hst D cI cZ cO cJ v H.size h) (va_cwS (rm := rxX2_requireZone) 1 hts gX2_errors_X2_requireZone rfl rfl rfl (by decide +kernel) ⟨Nat.le_of_ble_eq_true rfl, Nat.le_of_ble_eq_true rfl⟩) (kPreSX hK hN hX hP hD hS hA [] rfl rfl) rfl rfl hl.1 rfl (lv_room (Nat.le_of_ble_eq_true rfl)) dX2_errors_1 ⟨Nat.le_of_ble_eq_true rfl, Nat.le_of_ble_eq_true rfl⟩) (fun ce q9 H locs hP hD hS hce hcv hcl => ?_)
  subst hQ9
  subst hA9
  exact kOut hno hlocks hP hS hce hcv hcl (Nat.le_refl 1) (Nat.le_refl 6)

abbrev rxX2_hotMinutes : Room := { frames := 8, cells := 1, slots := 6, locals := 132 }
set_option maxHeartbeats 4000000 in
set_option maxRecDepth 100000 in
/-- hotMinutes_bad -/
theorem c_X2_hotMinutes_bad (l : Launch) (hst : l.stackTraces = false) (D : va_G) (cI cZ cO cJ : ClassId) (x a t b : Nat → Nat) (ck : Nat) (Ho T E Dm F S : Nat → Int32) (C : Nat → Nat → Int32) (la : Nat) (T1 E1 D1 F1 S1 : Nat → Int32) (C1 : Nat → Nat → Int32) (la1 : Nat) (Lo Se : Nat → Int32) (Ef : Nat → Nat → Int32) (gp gi am li : Int32) (dl : Nat) (v : Int32) (sz : Nat) (h : ¬ inR v (nI 0) (nI 5)) : kMxi l yX2_hotMinutes wsX2_hotMinutes rxX2_hotMinutes D (kT cI cZ cO cJ) [.ref (x 0), .int v] (wC cI cZ cO x a t b ck Ho T E Dm F S C la T1 E1 D1 F1 S1 C1 la1 Lo Se Ef gp gi am li dl) sz nIAE := by
  refine kEnterX (cc := cX2_hotMinutes) (maxL := 2) (ret := some .int) (by decide +kernel) rfl (Nat.le_of_ble_eq_true rfl) ?_
  intro p e s m below meth c args hx hb hr hml hts hown hlocks hno hK hN A hA9 Q hQ9 hP hD hsz hS hA hX ls hl
  have hl : lv_has ls 2 [(0, .ref (x 0)), (1, .int v)] := hl
  have hi_X2 : ∀ w ∈ u_ws RX2 TX2 5, w ∈ wsX2_hotMinutes := by decide +kernel
  obtain ⟨H, hH9⟩ : ∃ H, H = s.heap := ⟨_, rfl⟩
  rw [← hH9] at hP ⊢
  have hS : va_S A s.heap H [] := by rw [hH9]; exact va_S.rf
  refine lv_iload_n hx hb dX2_hotMinutes_0 rfl (lv_at hl 1 rfl) ?_
  refine kCallX_v hP hD hS hA [] rfl (vx_runS (As := [.int v]) (rest := []) ⟨hx, hb, hml, hown, hts⟩ (c_X2_requireZone_bad l hst D cI cZ cO cJ v H.size h) (va_cwS (rm := rxX2_requireZone) 1 hts gX2_hotMinutes_X2_requireZone rfl rfl rfl (by decide +kernel) ⟨Nat.le_of_ble_eq_true rfl, Nat.le_of_ble_eq_true rfl⟩) (kPreSX hK hN hX hP hD hS hA [] rfl rfl) rfl rfl hl.1 rfl (lv_room (Nat.le_of_ble_eq_true rfl)) dX2_hotMinutes_1 ⟨Nat.le_of_ble_eq_true rfl, Nat.le_of_ble_eq_true rfl⟩) (fun ce q9 H locs hP hD hS hce hcv hcl => ?_)
  subst hQ9
  subst hA9
  exact kOut hno hlocks hP hS hce hcv hcl (Nat.le_refl 1) (Nat.le_refl 6)

abbrev rxX2_pass : Room := { frames := 7, cells := 1, slots := 6, locals := 112 }
set_option maxHeartbeats 4000000 in
set_option maxRecDepth 100000 in
/-- pass_bad -/
theorem c_X2_pass_bad (l : Launch) (hst : l.stackTraces = false) (D : va_G) (cI cZ cO cJ : ClassId) (x a t b : Nat → Nat) (ck : Nat) (Ho T E Dm F S : Nat → Int32) (C : Nat → Nat → Int32) (la : Nat) (T1 E1 D1 F1 S1 : Nat → Int32) (C1 : Nat → Nat → Int32) (la1 : Nat) (Lo Se : Nat → Int32) (Ef : Nat → Nat → Int32) (gp gi am li : Int32) (dl : Nat) (v : Int32) (sz : Nat) (h : ¬ inR v (nI 1) (nI 300)) : kMxi l yX2_pass wsX2_pass rxX2_pass D (kT cI cZ cO cJ) [.ref (x 0), .int v] (wC cI cZ cO x a t b ck Ho T E Dm F S C la T1 E1 D1 F1 S1 C1 la1 Lo Se Ef gp gi am li dl) sz nIAE := by
  refine kEnterX (cc := cX2_pass) (maxL := 4) (ret := some .int) (by decide +kernel) rfl (Nat.le_of_ble_eq_true rfl) ?_
  intro p e s m below meth c args hx hb hr hml hts hown hlocks hno hK hN A hA9 Q hQ9 hP hD hsz hS hA hX ls hl
  have hl : lv_has ls 4 [(0, .ref (x 0)), (1, .int v)] := hl
  have hi_X2 : ∀ w ∈ u_ws RX2 TX2 5, w ∈ wsX2_pass := by decide +kernel
  obtain ⟨H, hH9⟩ : ∃ H, H = s.heap := ⟨_, rfl⟩
  rw [← hH9] at hP ⊢
  have hS : va_S A s.heap H [] := by rw [hH9]; exact va_S.rf
  refine lv_iload_n hx hb dX2_pass_0 rfl (lv_at hl 1 rfl) ?_
  refine lv_iconst (v := nI 1) hx hb dX2_pass_1 (by decide +kernel) ?_
  refine lv_sipush (v := nI 300) hx hb dX2_pass_2 (by decide +kernel) ?_
  refine kCallX_v hP hD hS hA [] rfl (vx_runS (As := [.int v, .int (nI 1), .int (nI 300)]) (rest := []) ⟨hx, hb, hml, hown, hts⟩ (c_X2_requireWithin_bad l hst D cI cZ cO cJ v (nI 1) (nI 300) H.size h) (va_cwS (rm := rxX2_requireWithin) 3 hts gX2_pass_X2_requireWithin rfl rfl rfl (by decide +kernel) ⟨Nat.le_of_ble_eq_true rfl, Nat.le_of_ble_eq_true rfl⟩) (kPreSX hK hN hX hP hD hS hA [] rfl rfl) rfl rfl hl.1 rfl (lv_room (Nat.le_of_ble_eq_true rfl)) dX2_pass_5 ⟨Nat.le_of_ble_eq_true rfl, Nat.le_of_ble_eq_true rfl⟩) (fun ce q9 H locs hP hD hS hce hcv hcl => ?_)
  subst hQ9
  subst hA9
  exact kOut hno hlocks hP hS hce hcv hcl (Nat.le_refl 1) (Nat.le_refl 6)

set_option maxRecDepth 100000 in
theorem kmem_pass_81 : ∀ w ∈ (vx_atS RX2 81 "java/lang/IllegalStateException" ["java/lang/RuntimeException", "java/lang/Exception"]).filter goodWord, w ∈ wsX2_pass := fun w h => List.mem_cons_of_mem _ (List.mem_append_left _ (List.mem_append_right _ h))
set_option maxHeartbeats 4000000 in
set_option maxRecDepth 100000 in
/-- pass_two -/
theorem c_X2_pass_two (l : Launch) (hst : l.stackTraces = false) (D : va_G) (cI cZ cO cJ : ClassId) (x a t b : Nat → Nat) (ck : Nat) (Ho T E Dm F S : Nat → Int32) (C : Nat → Nat → Int32) (la : Nat) (T1 E1 D1 F1 S1 : Nat → Int32) (C1 : Nat → Nat → Int32) (la1 : Nat) (Lo Se : Nat → Int32) (Ef : Nat → Nat → Int32) (gp gi am li : Int32) (dl : Nat) (nm : Nat) (sz : Nat) (h1 : 0 < nm) (h2 : nm ≤ 300) (hc : 100000 < ck + nm) (hk : ck ≤ 100000) : kMxi l yX2_pass wsX2_pass rxX2_pass D (kT cI cZ cO cJ) [.ref (x 0), .int (nI nm)] (wC cI cZ cO x a t b ck Ho T E Dm F S C la T1 E1 D1 F1 S1 C1 la1 Lo Se Ef gp gi am li dl) sz nISE := by
  refine kEnterX (cc := cX2_pass) (maxL := 4) (ret := some .int) (by decide +kernel) rfl (Nat.le_of_ble_eq_true rfl) ?_
  intro p e s m below meth c args hx hb hr hml hts hown hlocks hno hK hN A hA9 Q hQ9 hP hD hsz hS hA hX ls hl
  have hl : lv_has ls 4 [(0, .ref (x 0)), (1, .int (nI nm))] := hl
  have hi_X2 : ∀ w ∈ u_ws RX2 TX2 5, w ∈ wsX2_pass := by decide +kernel
  obtain ⟨H, hH9⟩ : ∃ H, H = s.heap := ⟨_, rfl⟩
  rw [← hH9] at hP ⊢
  have hS : va_S A s.heap H [] := by rw [hH9]; exact va_S.rf
  refine lv_iload_n hx hb dX2_pass_0 rfl (lv_at hl 1 rfl) ?_
  refine lv_iconst (v := nI 1) hx hb dX2_pass_1 (by decide +kernel) ?_
  refine lv_sipush (v := nI 300) hx hb dX2_pass_2 (by decide +kernel) ?_
  refine kCall_v (W0 := []) (W1 := []) hP hD hS hA [] rfl rfl (va_runS (As := [.int (nI nm), .int (nI 1), .int (nI 300)]) (rest := []) ⟨hx, hb, hml, hown, hts⟩ (c_X2_requireWithin l D cI cZ cO cJ (nI nm) (nI 1) (nI 300) H.size (nI_nlt (by omega) (by omega)) (nI_le (by omega) (by decide))) (va_cwS (rm := rmX2_requireWithin) 3 hts gX2_pass_X2_requireWithin rfl rfl rfl (by decide +kernel) ⟨Nat.le_of_ble_eq_true rfl, Nat.le_of_ble_eq_true rfl⟩) (kPreS hK hN hP hD [] rfl rfl) rfl rfl hl.1 rfl (lv_room (Nat.le_of_ble_eq_true rfl)) dX2_pass_5 ⟨Nat.zero_le _, Nat.zero_le _⟩) (fun H locs hP hD hS => ?_)
  have hP : va_P D vwCl (wC cI cZ cO x a t b ck Ho T E Dm F S C la T1 E1 D1 F1 S1 C1 la1 Lo Se Ef gp gi am li dl) H := hP
  have hD : va_D A (wC cI cZ cO x a t b ck Ho T E Dm F S C la T1 E1 D1 F1 S1 C1 la1 Lo Se Ef gp gi am li dl) := hD
  refine lv_aload_n hx hb dX2_pass_8 rfl (lv_at hl 0 rfl) ?_
  refine va_get (D := D) (ci := 2) (v := .int (nI ck)) (C := RX2) (T := TX2) (N := 5) hx hb hts hi_X2 hown hK hP 0 rfl rfl 4 (by decide) (hts (.fieldLink RX2 30 "Coldaisle" "clock" "I") (by decide +kernel)) (fun _ h9 => h9) rfl dX2_pass_9 ?_
  refine lv_iload_n hx hb dX2_pass_12 rfl (lv_at hl 1 rfl) ?_
  refine lv_iadd hx hb dX2_pass_13 ?_
  refine k_as (nI_add _ _) ?_
  refine lv_ldc hx hb hown (hts (.constant RX2 100 (100000)) (by decide +kernel)) dX2_pass_14 ?_
  refine k_as (y := nI 100000) (by decide +kernel) ?_
  refine lv_icmp_le (tgt := 29) hx hb dX2_pass_16 (by decide) (fun c9 => absurd c9 (nI_nle2 hc (by omega))) (fun _ => ?_)
  obtain ⟨sa, hsa⟩ := hX.2.2.2.2.2.1
  subst hQ9
  subst hA9
  have hgw : ∀ w ∈ (vx_atS RX2 81 "java/lang/IllegalStateException" ["java/lang/RuntimeException", "java/lang/Exception"]).filter goodWord, w.before args s = true := fun w h => hts w (kmem_pass_81 w h)
  exact kThrow hx hb hst hown (by decide +kernel) (by decide +kernel) (hts (.classLink RX2 77 "java/lang/IllegalStateException") (by decide +kernel)) (hts (.initialized "java/lang/IllegalStateException") (by decide +kernel)) hsa (vx_hat (B := xB_ise) hgw (fun w h => h) (kXw.use xB_ise_ok hX.2.2.2.2.2.2.2)) xg_ise hX hP hS (hl.1.trans hml.symm) dX2_pass_19 dX2_pass_22 dX2_pass_23 dX2_pass_25 dX2_pass_28 hno (by decide) (Nat.le_of_ble_eq_true rfl) (Nat.le_of_ble_eq_true rfl) (Nat.le_of_ble_eq_true rfl) hlocks

abbrev rxX2_expected : Room := { frames := 9, cells := 1, slots := 6, locals := 153 }
set_option maxHeartbeats 4000000 in
set_option maxRecDepth 100000 in
/-- expected_bad -/
theorem c_X2_expected_bad (l : Launch) (hst : l.stackTraces = false) (D : va_G) (cI cZ cO cJ : ClassId) (x a t b : Nat → Nat) (ck : Nat) (Ho T E Dm F S : Nat → Int32) (C : Nat → Nat → Int32) (la : Nat) (T1 E1 D1 F1 S1 : Nat → Int32) (C1 : Nat → Nat → Int32) (la1 : Nat) (Lo Se : Nat → Int32) (Ef : Nat → Nat → Int32) (gp gi am li : Int32) (dl : Nat) (v w : Int32) (sz : Nat) (h : ¬ (inR v (nI 0) (nI 5) ∧ inR w (nI 1) (nI 60))) : kMxi l yX2_expected wsX2_expected rxX2_expected D (kT cI cZ cO cJ) [.ref (x 0), .int v, .int w] (wC cI cZ cO x a t b ck Ho T E Dm F S C la T1 E1 D1 F1 S1 C1 la1 Lo Se Ef gp gi am li dl) sz nIAE := by
  refine kEnterX (cc := cX2_expected) (maxL := 3) (ret := some .int) (by decide +kernel) rfl (Nat.le_of_ble_eq_true rfl) ?_
  intro p e s m below meth c args hx hb hr hml hts hown hlocks hno hK hN A hA9 Q hQ9 hP hD hsz hS hA hX ls hl
  have hl : lv_has ls 3 [(0, .ref (x 0)), (1, .int v), (2, .int w)] := hl
  have hi_X2 : ∀ w ∈ u_ws RX2 TX2 5, w ∈ wsX2_expected := by decide +kernel
  obtain ⟨H, hH9⟩ : ∃ H, H = s.heap := ⟨_, rfl⟩
  rw [← hH9] at hP ⊢
  have hS : va_S A s.heap H [] := by rw [hH9]; exact va_S.rf
  refine lv_iload_n hx hb dX2_expected_0 rfl (lv_at hl 1 rfl) ?_
  refine lv_iload_n hx hb dX2_expected_1 rfl (lv_at hl 2 rfl) ?_
  refine kCallX_v hP hD hS hA [] rfl (vx_runS (As := [.int v, .int w]) (rest := []) ⟨hx, hb, hml, hown, hts⟩ (c_X2_requireForecast_bad l hst D cI cZ cO cJ v w H.size h) (va_cwS (rm := rxX2_requireForecast) 2 hts gX2_expected_X2_requireForecast rfl rfl rfl (by decide +kernel) ⟨Nat.le_of_ble_eq_true rfl, Nat.le_of_ble_eq_true rfl⟩) (kPreSX hK hN hX hP hD hS hA [] rfl rfl) rfl rfl hl.1 rfl (lv_room (Nat.le_of_ble_eq_true rfl)) dX2_expected_2 ⟨Nat.le_of_ble_eq_true rfl, Nat.le_of_ble_eq_true rfl⟩) (fun ce q9 H locs hP hD hS hce hcv hcl => ?_)
  subst hQ9
  subst hA9
  exact kOut hno hlocks hP hS hce hcv hcl (Nat.le_refl 1) (Nat.le_refl 6)

abbrev rxX2_critical : Room := { frames := 9, cells := 1, slots := 6, locals := 153 }
set_option maxHeartbeats 4000000 in
set_option maxRecDepth 100000 in
/-- critical_bad -/
theorem c_X2_critical_bad (l : Launch) (hst : l.stackTraces = false) (D : va_G) (cI cZ cO cJ : ClassId) (x a t b : Nat → Nat) (ck : Nat) (Ho T E Dm F S : Nat → Int32) (C : Nat → Nat → Int32) (la : Nat) (T1 E1 D1 F1 S1 : Nat → Int32) (C1 : Nat → Nat → Int32) (la1 : Nat) (Lo Se : Nat → Int32) (Ef : Nat → Nat → Int32) (gp gi am li : Int32) (dl : Nat) (v w : Int32) (sz : Nat) (h : ¬ (inR v (nI 0) (nI 5) ∧ inR w (nI 1) (nI 60))) : kMxi l yX2_critical wsX2_critical rxX2_critical D (kT cI cZ cO cJ) [.ref (x 0), .int v, .int w] (wC cI cZ cO x a t b ck Ho T E Dm F S C la T1 E1 D1 F1 S1 C1 la1 Lo Se Ef gp gi am li dl) sz nIAE := by
  refine kEnterX (cc := cX2_critical) (maxL := 3) (ret := some .int) (by decide +kernel) rfl (Nat.le_of_ble_eq_true rfl) ?_
  intro p e s m below meth c args hx hb hr hml hts hown hlocks hno hK hN A hA9 Q hQ9 hP hD hsz hS hA hX ls hl
  have hl : lv_has ls 3 [(0, .ref (x 0)), (1, .int v), (2, .int w)] := hl
  have hi_X2 : ∀ w ∈ u_ws RX2 TX2 5, w ∈ wsX2_critical := by decide +kernel
  obtain ⟨H, hH9⟩ : ∃ H, H = s.heap := ⟨_, rfl⟩
  rw [← hH9] at hP ⊢
  have hS : va_S A s.heap H [] := by rw [hH9]; exact va_S.rf
  refine lv_iload_n hx hb dX2_critical_0 rfl (lv_at hl 1 rfl) ?_
  refine lv_iload_n hx hb dX2_critical_1 rfl (lv_at hl 2 rfl) ?_
  refine kCallX_v hP hD hS hA [] rfl (vx_runS (As := [.int v, .int w]) (rest := []) ⟨hx, hb, hml, hown, hts⟩ (c_X2_requireForecast_bad l hst D cI cZ cO cJ v w H.size h) (va_cwS (rm := rxX2_requireForecast) 2 hts gX2_critical_X2_requireForecast rfl rfl rfl (by decide +kernel) ⟨Nat.le_of_ble_eq_true rfl, Nat.le_of_ble_eq_true rfl⟩) (kPreSX hK hN hX hP hD hS hA [] rfl rfl) rfl rfl hl.1 rfl (lv_room (Nat.le_of_ble_eq_true rfl)) dX2_critical_2 ⟨Nat.le_of_ble_eq_true rfl, Nat.le_of_ble_eq_true rfl⟩) (fun ce q9 H locs hP hD hS hce hcv hcl => ?_)
  subst hQ9
  subst hA9
  exact kOut hno hlocks hP hS hce hcv hcl (Nat.le_refl 1) (Nat.le_refl 6)

abbrev rxX2_margin : Room := { frames := 9, cells := 1, slots := 6, locals := 153 }
set_option maxHeartbeats 4000000 in
set_option maxRecDepth 100000 in
/-- margin_bad -/
theorem c_X2_margin_bad (l : Launch) (hst : l.stackTraces = false) (D : va_G) (cI cZ cO cJ : ClassId) (x a t b : Nat → Nat) (ck : Nat) (Ho T E Dm F S : Nat → Int32) (C : Nat → Nat → Int32) (la : Nat) (T1 E1 D1 F1 S1 : Nat → Int32) (C1 : Nat → Nat → Int32) (la1 : Nat) (Lo Se : Nat → Int32) (Ef : Nat → Nat → Int32) (gp gi am li : Int32) (dl : Nat) (v w : Int32) (sz : Nat) (h : ¬ (inR v (nI 0) (nI 5) ∧ inR w (nI 1) (nI 60))) : kMxi l yX2_margin wsX2_margin rxX2_margin D (kT cI cZ cO cJ) [.ref (x 0), .int v, .int w] (wC cI cZ cO x a t b ck Ho T E Dm F S C la T1 E1 D1 F1 S1 C1 la1 Lo Se Ef gp gi am li dl) sz nIAE := by
  refine kEnterX (cc := cX2_margin) (maxL := 4) (ret := some .int) (by decide +kernel) rfl (Nat.le_of_ble_eq_true rfl) ?_
  intro p e s m below meth c args hx hb hr hml hts hown hlocks hno hK hN A hA9 Q hQ9 hP hD hsz hS hA hX ls hl
  have hl : lv_has ls 4 [(0, .ref (x 0)), (1, .int v), (2, .int w)] := hl
  have hi_X2 : ∀ w ∈ u_ws RX2 TX2 5, w ∈ wsX2_margin := by decide +kernel
  obtain ⟨H, hH9⟩ : ∃ H, H = s.heap := ⟨_, rfl⟩
  rw [← hH9] at hP ⊢
  have hS : va_S A s.heap H [] := by rw [hH9]; exact va_S.rf
  refine lv_iload_n hx hb dX2_margin_0 rfl (lv_at hl 1 rfl) ?_
  refine lv_iload_n hx hb dX2_margin_1 rfl (lv_at hl 2 rfl) ?_
  refine kCallX_v hP hD hS hA [] rfl (vx_runS (As := [.int v, .int w]) (rest := []) ⟨hx, hb, hml, hown, hts⟩ (c_X2_requireForecast_bad l hst D cI cZ cO cJ v w H.size h) (va_cwS (rm := rxX2_requireForecast) 2 hts gX2_margin_X2_requireForecast rfl rfl rfl (by decide +kernel) ⟨Nat.le_of_ble_eq_true rfl, Nat.le_of_ble_eq_true rfl⟩) (kPreSX hK hN hX hP hD hS hA [] rfl rfl) rfl rfl hl.1 rfl (lv_room (Nat.le_of_ble_eq_true rfl)) dX2_margin_2 ⟨Nat.le_of_ble_eq_true rfl, Nat.le_of_ble_eq_true rfl⟩) (fun ce q9 H locs hP hD hS hce hcv hcl => ?_)
  subst hQ9
  subst hA9
  exact kOut hno hlocks hP hS hce hcv hcl (Nat.le_refl 1) (Nat.le_refl 6)

