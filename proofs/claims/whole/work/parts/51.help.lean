/-! ===== the law's helpers ===== -/
abbrev rmL_setLoad : Room := { frames := 3, cells := 0, slots := 0, locals := 65 }
set_option maxHeartbeats 4000000 in
set_option maxRecDepth 100000 in
/-- setLoad -/
theorem c_L_setLoad (l : Launch) (D : va_G) (cI cZ cO cJ : ClassId) (x a t b : Nat → Nat) (ck : Nat) (Ho T E Dm F S : Nat → Int32) (C : Nat → Nat → Int32) (la : Nat) (T1 E1 D1 F1 S1 : Nat → Int32) (C1 : Nat → Nat → Int32) (la1 : Nat) (Lo Se : Nat → Int32) (Ef : Nat → Nat → Int32) (gp gi am li : Int32) (dl : Nat) (z : Nat) (v : Int32) (o : Nat) (g : Nat → Int64) (sz : Nat) (hz : z < 6) (h1 : ¬ v < nI 0) (h2 : v ≤ nI 200) : kMH l yL_setLoad wsL_setLoad rmL_setLoad D (kT cI cZ cO cJ) [.ref (x 0), .int (nI z), .int v, .ref o] (wC cI cZ cO x a t b ck Ho T E Dm F S C la T1 E1 D1 F1 S1 C1 la1 Lo Se Ef gp gi am li dl ++ [(o, .inl (cJ, 1, .inr (.inl g)))]) (fun _ : Unit => wC cI cZ cO x a t b ck Ho T E Dm F S C la T1 E1 D1 F1 S1 C1 la1 (upd Lo z v) Se Ef gp gi am li dl ++ [(o, .inl (cJ, 1, .inr (.inl (vp_updL g 0 ((Lo z)).toInt64))))]) 0 0 sz (nI 0) := by
  refine kEnterH (cc := cL_setLoad) (maxL := 5) (ret := some .int) (hh := [(0, 10, 13, 13)]) (by decide +kernel) rfl (Nat.le_of_ble_eq_true rfl) ?_
  intro p e s m below meth c args hx hb hr hml hts hown hlocks htab hK hN A hA9 Q hQ9 hP hD hsz hS hA hX hC ls hl
  have hl : lv_has ls 5 [(0, .ref (x 0)), (1, .int (nI z)), (2, .int v), (3, .ref o)] := hl
  obtain ⟨H, hH9⟩ : ∃ H, H = s.heap := ⟨_, rfl⟩
  rw [← hH9] at hP ⊢
  have hS : va_S A s.heap H [] := by rw [hH9]; exact va_S.rf
  refine lv_aload_n hx hb dL_setLoad_0 rfl (lv_at hl 3 rfl) ?_
  refine lv_iconst (v := nI 0) hx hb dL_setLoad_1 (by decide +kernel) ?_
  refine lv_aload_n hx hb dL_setLoad_2 rfl (lv_at hl 0 rfl) ?_
  refine lv_iload_n hx hb dL_setLoad_3 rfl (lv_at hl 1 rfl) ?_
  refine lv_iload_n hx hb dL_setLoad_4 rfl (lv_at hl 2 rfl) ?_
  refine kCallP_i (W1 := fun _ : Unit => wC cI cZ cO x a t b ck Ho T E Dm F S C la T1 E1 D1 F1 S1 C1 la1 (upd Lo z v) Se Ef gp gi am li dl) (fun _ _ h => h) hP hD hS hA (fun _ => rfl) (va_runV (As := [.int (nI z), .int v]) (rest := [.int (nI 0), .ref o]) ⟨hx, hb, hml, hown, hts⟩ (c_X2_setLoad l D cI cZ cO cJ x a t b ck Ho T E Dm F S C la T1 E1 D1 F1 S1 C1 la1 Lo Se Ef gp gi am li dl z v H.size hz h1 h2) (cwV (rm := rmX2_setLoad) 2 hts gL_setLoad_X2_setLoad rfl rfl rfl (by decide +kernel) ⟨Nat.le_of_ble_eq_true rfl, Nat.le_of_ble_eq_true rfl⟩) (kPreVW hK hN (pfP hP) (pfD hD) (va_recv hK (pfP hP) (ci := 2) (q0 := 0) rfl rfl)) rfl rfl hl.1 rfl (lv_room (Nat.le_of_ble_eq_true rfl)) dL_setLoad_5 ⟨Nat.zero_le _, Nat.zero_le _⟩) (fun r9 u H locs hr9 hP hD hS => ?_)
  subst hr9
  refine lv_i2l hx hb dL_setLoad_8 rfl ?_
  refine k_lastS hx hb hK 3 rfl hP hD hS dL_setLoad_9 (fun H locs hP hD hS => ?_)
  refine lv_goto (tgt := 17) hx hb dL_setLoad_10 (by decide) ?_
  refine lv_iconst (v := nI 0) hx hb dL_setLoad_17 (by decide +kernel) ?_
  subst hQ9
  subst hA9
  exact kRetH_i () hx hb hr hlocks hP hS dL_setLoad_18 rfl

abbrev rxL_setLoad : Room := { frames := 9, cells := 1, slots := 6, locals := 155 }
set_option maxHeartbeats 4000000 in
set_option maxRecDepth 100000 in
/-- setLoad_bad -/
theorem c_L_setLoad_bad (l : Launch) (hst : l.stackTraces = false) (D : va_G) (cI cZ cO cJ : ClassId) (x a t b : Nat → Nat) (ck : Nat) (Ho T E Dm F S : Nat → Int32) (C : Nat → Nat → Int32) (la : Nat) (T1 E1 D1 F1 S1 : Nat → Int32) (C1 : Nat → Nat → Int32) (la1 : Nat) (Lo Se : Nat → Int32) (Ef : Nat → Nat → Int32) (gp gi am li : Int32) (dl : Nat) (v w : Int32) (o : Nat) (g : Nat → Int64) (sz : Nat) (h : ¬ (inR v (nI 0) (nI 5) ∧ inR w (nI 0) (nI 200))) : kMH l yL_setLoad wsL_setLoad rxL_setLoad D (kT cI cZ cO cJ) [.ref (x 0), .int v, .int w, .ref o] (wC cI cZ cO x a t b ck Ho T E Dm F S C la T1 E1 D1 F1 S1 C1 la1 Lo Se Ef gp gi am li dl ++ [(o, .inl (cJ, 1, .inr (.inl g)))]) (fun _ : Unit => wC cI cZ cO x a t b ck Ho T E Dm F S C la T1 E1 D1 F1 S1 C1 la1 Lo Se Ef gp gi am li dl ++ [(o, .inl (cJ, 1, .inr (.inl g)))]) 1 6 sz (nI 1) := by
  refine kEnterH (cc := cL_setLoad) (maxL := 5) (ret := some .int) (hh := [(0, 10, 13, 13)]) (by decide +kernel) rfl (Nat.le_of_ble_eq_true rfl) ?_
  intro p e s m below meth c args hx hb hr hml hts hown hlocks htab hK hN A hA9 Q hQ9 hP hD hsz hS hA hX hC ls hl
  have hl : lv_has ls 5 [(0, .ref (x 0)), (1, .int v), (2, .int w), (3, .ref o)] := hl
  obtain ⟨H, hH9⟩ : ∃ H, H = s.heap := ⟨_, rfl⟩
  rw [← hH9] at hP ⊢
  have hS : va_S A s.heap H [] := by rw [hH9]; exact va_S.rf
  refine lv_aload_n hx hb dL_setLoad_0 rfl (lv_at hl 3 rfl) ?_
  refine lv_iconst (v := nI 0) hx hb dL_setLoad_1 (by decide +kernel) ?_
  refine lv_aload_n hx hb dL_setLoad_2 rfl (lv_at hl 0 rfl) ?_
  refine lv_iload_n hx hb dL_setLoad_3 rfl (lv_at hl 1 rfl) ?_
  refine lv_iload_n hx hb dL_setLoad_4 rfl (lv_at hl 2 rfl) ?_
  refine kCallXP_i hP hD hS hA (vx_runV (As := [.int v, .int w]) (rest := [.int (nI 0), .ref o]) ⟨hx, hb, hml, hown, hts⟩ (c_X2_setLoad_bad l hst D cI cZ cO cJ x a t b ck Ho T E Dm F S C la T1 E1 D1 F1 S1 C1 la1 Lo Se Ef gp gi am li dl v w H.size h) (cwV (rm := rxX2_setLoad) 2 hts gL_setLoad_X2_setLoad rfl rfl rfl (by decide +kernel) ⟨Nat.le_of_ble_eq_true rfl, Nat.le_of_ble_eq_true rfl⟩) (kPreVXW hK hN hX (pfP hP) (pfD hD) hS (kfree (pfD hD) hS hA) (va_recv hK (pfP hP) (ci := 2) (q0 := 0) rfl rfl)) rfl rfl hl.1 rfl (lv_room (Nat.le_of_ble_eq_true rfl)) dL_setLoad_5 ⟨Nat.le_of_ble_eq_true rfl, Nat.le_of_ble_eq_true rfl⟩) (fun ce q9 H locs hP hD hS hce hcv hcl => ?_)
  refine vx_catch (name := "java/lang/IllegalArgumentException") hown [] ⟨0, 10, 13, 13⟩ [] (by rw [htab]; rfl) (fun z h => absurd h (List.not_mem_nil)) rfl (by decide) (hts (.classLink RL 13 "java/lang/IllegalArgumentException") (by decide +kernel)) (kXw.use xB_iae_ok hX.2.2.2.2.2.2.1 _ (by decide +kernel)) hce hcv hcl ?_
  refine lv_astore (lv' := [(4, .ref q9), (0, .ref (x 0)), (1, .int v), (2, .int w), (3, .ref o)]) hx hb dL_setLoad_13 hl (by decide) rfl (fun ls hl => ?_)
  refine lv_iconst (v := nI 1) hx hb dL_setLoad_15 (by decide +kernel) ?_
  subst hQ9
  subst hA9
  exact kRetH_i () hx hb hr hlocks hP hS dL_setLoad_16 rfl

abbrev rmL_setSetpoint : Room := { frames := 3, cells := 0, slots := 0, locals := 65 }
set_option maxHeartbeats 4000000 in
set_option maxRecDepth 100000 in
/-- setSetpoint -/
theorem c_L_setSetpoint (l : Launch) (D : va_G) (cI cZ cO cJ : ClassId) (x a t b : Nat → Nat) (ck : Nat) (Ho T E Dm F S : Nat → Int32) (C : Nat → Nat → Int32) (la : Nat) (T1 E1 D1 F1 S1 : Nat → Int32) (C1 : Nat → Nat → Int32) (la1 : Nat) (Lo Se : Nat → Int32) (Ef : Nat → Nat → Int32) (gp gi am li : Int32) (dl : Nat) (z : Nat) (v : Int32) (o : Nat) (g : Nat → Int64) (sz : Nat) (hz : z < 6) (h1 : ¬ v < nI 1500) (h2 : v ≤ nI 3500) : kMH l yL_setSetpoint wsL_setSetpoint rmL_setSetpoint D (kT cI cZ cO cJ) [.ref (x 0), .int (nI z), .int v, .ref o] (wC cI cZ cO x a t b ck Ho T E Dm F S C la T1 E1 D1 F1 S1 C1 la1 Lo Se Ef gp gi am li dl ++ [(o, .inl (cJ, 1, .inr (.inl g)))]) (fun _ : Unit => wC cI cZ cO x a t b ck Ho T (upd E z (nI 0)) Dm F S C la T1 E1 D1 F1 S1 C1 la1 Lo (upd Se z v) Ef gp gi am li dl ++ [(o, .inl (cJ, 1, .inr (.inl (vp_updL g 0 ((Se z)).toInt64))))]) 0 0 sz (nI 0) := by
  refine kEnterH (cc := cL_setSetpoint) (maxL := 5) (ret := some .int) (hh := [(0, 10, 13, 13)]) (by decide +kernel) rfl (Nat.le_of_ble_eq_true rfl) ?_
  intro p e s m below meth c args hx hb hr hml hts hown hlocks htab hK hN A hA9 Q hQ9 hP hD hsz hS hA hX hC ls hl
  have hl : lv_has ls 5 [(0, .ref (x 0)), (1, .int (nI z)), (2, .int v), (3, .ref o)] := hl
  obtain ⟨H, hH9⟩ : ∃ H, H = s.heap := ⟨_, rfl⟩
  rw [← hH9] at hP ⊢
  have hS : va_S A s.heap H [] := by rw [hH9]; exact va_S.rf
  refine lv_aload_n hx hb dL_setSetpoint_0 rfl (lv_at hl 3 rfl) ?_
  refine lv_iconst (v := nI 0) hx hb dL_setSetpoint_1 (by decide +kernel) ?_
  refine lv_aload_n hx hb dL_setSetpoint_2 rfl (lv_at hl 0 rfl) ?_
  refine lv_iload_n hx hb dL_setSetpoint_3 rfl (lv_at hl 1 rfl) ?_
  refine lv_iload_n hx hb dL_setSetpoint_4 rfl (lv_at hl 2 rfl) ?_
  refine kCallP_i (W1 := fun _ : Unit => wC cI cZ cO x a t b ck Ho T (upd E z (nI 0)) Dm F S C la T1 E1 D1 F1 S1 C1 la1 Lo (upd Se z v) Ef gp gi am li dl) (fun _ _ h => h) hP hD hS hA (fun _ => rfl) (va_runV (As := [.int (nI z), .int v]) (rest := [.int (nI 0), .ref o]) ⟨hx, hb, hml, hown, hts⟩ (c_X2_setSetpoint l D cI cZ cO cJ x a t b ck Ho T E Dm F S C la T1 E1 D1 F1 S1 C1 la1 Lo Se Ef gp gi am li dl z v H.size hz h1 h2) (cwV (rm := rmX2_setSetpoint) 2 hts gL_setSetpoint_X2_setSetpoint rfl rfl rfl (by decide +kernel) ⟨Nat.le_of_ble_eq_true rfl, Nat.le_of_ble_eq_true rfl⟩) (kPreVW hK hN (pfP hP) (pfD hD) (va_recv hK (pfP hP) (ci := 2) (q0 := 0) rfl rfl)) rfl rfl hl.1 rfl (lv_room (Nat.le_of_ble_eq_true rfl)) dL_setSetpoint_5 ⟨Nat.zero_le _, Nat.zero_le _⟩) (fun r9 u H locs hr9 hP hD hS => ?_)
  subst hr9
  refine lv_i2l hx hb dL_setSetpoint_8 rfl ?_
  refine k_lastS hx hb hK 3 rfl hP hD hS dL_setSetpoint_9 (fun H locs hP hD hS => ?_)
  refine lv_goto (tgt := 17) hx hb dL_setSetpoint_10 (by decide) ?_
  refine lv_iconst (v := nI 0) hx hb dL_setSetpoint_17 (by decide +kernel) ?_
  subst hQ9
  subst hA9
  exact kRetH_i () hx hb hr hlocks hP hS dL_setSetpoint_18 rfl

abbrev rxL_setSetpoint : Room := { frames := 9, cells := 1, slots := 6, locals := 155 }
set_option maxHeartbeats 4000000 in
set_option maxRecDepth 100000 in
/-- setSetpoint_bad -/
theorem c_L_setSetpoint_bad (l : Launch) (hst : l.stackTraces = false) (D : va_G) (cI cZ cO cJ : ClassId) (x a t b : Nat → Nat) (ck : Nat) (Ho T E Dm F S : Nat → Int32) (C : Nat → Nat → Int32) (la : Nat) (T1 E1 D1 F1 S1 : Nat → Int32) (C1 : Nat → Nat → Int32) (la1 : Nat) (Lo Se : Nat → Int32) (Ef : Nat → Nat → Int32) (gp gi am li : Int32) (dl : Nat) (v w : Int32) (o : Nat) (g : Nat → Int64) (sz : Nat) (h : ¬ (inR v (nI 0) (nI 5) ∧ inR w (nI 1500) (nI 3500))) : kMH l yL_setSetpoint wsL_setSetpoint rxL_setSetpoint D (kT cI cZ cO cJ) [.ref (x 0), .int v, .int w, .ref o] (wC cI cZ cO x a t b ck Ho T E Dm F S C la T1 E1 D1 F1 S1 C1 la1 Lo Se Ef gp gi am li dl ++ [(o, .inl (cJ, 1, .inr (.inl g)))]) (fun _ : Unit => wC cI cZ cO x a t b ck Ho T E Dm F S C la T1 E1 D1 F1 S1 C1 la1 Lo Se Ef gp gi am li dl ++ [(o, .inl (cJ, 1, .inr (.inl g)))]) 1 6 sz (nI 1) := by
  refine kEnterH (cc := cL_setSetpoint) (maxL := 5) (ret := some .int) (hh := [(0, 10, 13, 13)]) (by decide +kernel) rfl (Nat.le_of_ble_eq_true rfl) ?_
  intro p e s m below meth c args hx hb hr hml hts hown hlocks htab hK hN A hA9 Q hQ9 hP hD hsz hS hA hX hC ls hl
  have hl : lv_has ls 5 [(0, .ref (x 0)), (1, .int v), (2, .int w), (3, .ref o)] := hl
  obtain ⟨H, hH9⟩ : ∃ H, H = s.heap := ⟨_, rfl⟩
  rw [← hH9] at hP ⊢
  have hS : va_S A s.heap H [] := by rw [hH9]; exact va_S.rf
  refine lv_aload_n hx hb dL_setSetpoint_0 rfl (lv_at hl 3 rfl) ?_
  refine lv_iconst (v := nI 0) hx hb dL_setSetpoint_1 (by decide +kernel) ?_
  refine lv_aload_n hx hb dL_setSetpoint_2 rfl (lv_at hl 0 rfl) ?_
  refine lv_iload_n hx hb dL_setSetpoint_3 rfl (lv_at hl 1 rfl) ?_
  refine lv_iload_n hx hb dL_setSetpoint_4 rfl (lv_at hl 2 rfl) ?_
  refine kCallXP_i hP hD hS hA (vx_runV (As := [.int v, .int w]) (rest := [.int (nI 0), .ref o]) ⟨hx, hb, hml, hown, hts⟩ (c_X2_setSetpoint_bad l hst D cI cZ cO cJ x a t b ck Ho T E Dm F S C la T1 E1 D1 F1 S1 C1 la1 Lo Se Ef gp gi am li dl v w H.size h) (cwV (rm := rxX2_setSetpoint) 2 hts gL_setSetpoint_X2_setSetpoint rfl rfl rfl (by decide +kernel) ⟨Nat.le_of_ble_eq_true rfl, Nat.le_of_ble_eq_true rfl⟩) (kPreVXW hK hN hX (pfP hP) (pfD hD) hS (kfree (pfD hD) hS hA) (va_recv hK (pfP hP) (ci := 2) (q0 := 0) rfl rfl)) rfl rfl hl.1 rfl (lv_room (Nat.le_of_ble_eq_true rfl)) dL_setSetpoint_5 ⟨Nat.le_of_ble_eq_true rfl, Nat.le_of_ble_eq_true rfl⟩) (fun ce q9 H locs hP hD hS hce hcv hcl => ?_)
  refine vx_catch (name := "java/lang/IllegalArgumentException") hown [] ⟨0, 10, 13, 13⟩ [] (by rw [htab]; rfl) (fun z h => absurd h (List.not_mem_nil)) rfl (by decide) (hts (.classLink RL 13 "java/lang/IllegalArgumentException") (by decide +kernel)) (kXw.use xB_iae_ok hX.2.2.2.2.2.2.1 _ (by decide +kernel)) hce hcv hcl ?_
  refine lv_astore (lv' := [(4, .ref q9), (0, .ref (x 0)), (1, .int v), (2, .int w), (3, .ref o)]) hx hb dL_setSetpoint_13 hl (by decide) rfl (fun ls hl => ?_)
  refine lv_iconst (v := nI 1) hx hb dL_setSetpoint_15 (by decide +kernel) ?_
  subst hQ9
  subst hA9
  exact kRetH_i () hx hb hr hlocks hP hS dL_setSetpoint_16 rfl

abbrev rmL_setEffect : Room := { frames := 3, cells := 0, slots := 0, locals := 66 }
set_option maxHeartbeats 4000000 in
set_option maxRecDepth 100000 in
/-- setEffect -/
theorem c_L_setEffect (l : Launch) (D : va_G) (cI cZ cO cJ : ClassId) (x a t b : Nat → Nat) (ck : Nat) (Ho T E Dm F S : Nat → Int32) (C : Nat → Nat → Int32) (la : Nat) (T1 E1 D1 F1 S1 : Nat → Int32) (C1 : Nat → Nat → Int32) (la1 : Nat) (Lo Se : Nat → Int32) (Ef : Nat → Nat → Int32) (gp gi am li : Int32) (dl : Nat) (f z : Nat) (v : Int32) (o : Nat) (g : Nat → Int64) (sz : Nat) (hf : f < 8) (hz : z < 6) (h1 : ¬ v < nI 0) (h2 : v ≤ nI 100) : kMH l yL_setEffect wsL_setEffect rmL_setEffect D (kT cI cZ cO cJ) [.ref (x 0), .int (nI f), .int (nI z), .int v, .ref o] (wC cI cZ cO x a t b ck Ho T E Dm F S C la T1 E1 D1 F1 S1 C1 la1 Lo Se Ef gp gi am li dl ++ [(o, .inl (cJ, 1, .inr (.inl g)))]) (fun _ : Unit => wC cI cZ cO x a t b ck Ho T E Dm F S C la T1 E1 D1 F1 S1 C1 la1 Lo Se (va_up Ef f (upd (Ef f) z v)) gp gi am li dl ++ [(o, .inl (cJ, 1, .inr (.inl (vp_updL g 0 ((Ef f z)).toInt64))))]) 0 0 sz (nI 0) := by
  refine kEnterH (cc := cL_setEffect) (maxL := 6) (ret := some .int) (hh := [(0, 12, 15, 13)]) (by decide +kernel) rfl (Nat.le_of_ble_eq_true rfl) ?_
  intro p e s m below meth c args hx hb hr hml hts hown hlocks htab hK hN A hA9 Q hQ9 hP hD hsz hS hA hX hC ls hl
  have hl : lv_has ls 6 [(0, .ref (x 0)), (1, .int (nI f)), (2, .int (nI z)), (3, .int v), (4, .ref o)] := hl
  obtain ⟨H, hH9⟩ : ∃ H, H = s.heap := ⟨_, rfl⟩
  rw [← hH9] at hP ⊢
  have hS : va_S A s.heap H [] := by rw [hH9]; exact va_S.rf
  refine lv_aload hx hb dL_setEffect_0 (lv_at hl 4 rfl) ?_
  refine lv_iconst (v := nI 0) hx hb dL_setEffect_2 (by decide +kernel) ?_
  refine lv_aload_n hx hb dL_setEffect_3 rfl (lv_at hl 0 rfl) ?_
  refine lv_iload_n hx hb dL_setEffect_4 rfl (lv_at hl 1 rfl) ?_
  refine lv_iload_n hx hb dL_setEffect_5 rfl (lv_at hl 2 rfl) ?_
  refine lv_iload_n hx hb dL_setEffect_6 rfl (lv_at hl 3 rfl) ?_
  refine kCallP_i (W1 := fun _ : Unit => wC cI cZ cO x a t b ck Ho T E Dm F S C la T1 E1 D1 F1 S1 C1 la1 Lo Se (va_up Ef f (upd (Ef f) z v)) gp gi am li dl) (fun _ _ h => h) hP hD hS hA (fun _ => rfl) (va_runV (As := [.int (nI f), .int (nI z), .int v]) (rest := [.int (nI 0), .ref o]) ⟨hx, hb, hml, hown, hts⟩ (c_X2_setEffect l D cI cZ cO cJ x a t b ck Ho T E Dm F S C la T1 E1 D1 F1 S1 C1 la1 Lo Se Ef gp gi am li dl f z v H.size hf hz h1 h2) (cwV (rm := rmX2_setEffect) 3 hts gL_setEffect_X2_setEffect rfl rfl rfl (by decide +kernel) ⟨Nat.le_of_ble_eq_true rfl, Nat.le_of_ble_eq_true rfl⟩) (kPreVW hK hN (pfP hP) (pfD hD) (va_recv hK (pfP hP) (ci := 2) (q0 := 0) rfl rfl)) rfl rfl hl.1 rfl (lv_room (Nat.le_of_ble_eq_true rfl)) dL_setEffect_7 ⟨Nat.zero_le _, Nat.zero_le _⟩) (fun r9 u H locs hr9 hP hD hS => ?_)
  subst hr9
  refine lv_i2l hx hb dL_setEffect_10 rfl ?_
  refine k_lastS hx hb hK 3 rfl hP hD hS dL_setEffect_11 (fun H locs hP hD hS => ?_)
  refine lv_goto (tgt := 19) hx hb dL_setEffect_12 (by decide) ?_
  refine lv_iconst (v := nI 0) hx hb dL_setEffect_19 (by decide +kernel) ?_
  subst hQ9
  subst hA9
  exact kRetH_i () hx hb hr hlocks hP hS dL_setEffect_20 rfl

abbrev rxL_setEffect : Room := { frames := 9, cells := 1, slots := 6, locals := 156 }
set_option maxHeartbeats 4000000 in
set_option maxRecDepth 100000 in
/-- setEffect_bad -/
theorem c_L_setEffect_bad (l : Launch) (hst : l.stackTraces = false) (D : va_G) (cI cZ cO cJ : ClassId) (x a t b : Nat → Nat) (ck : Nat) (Ho T E Dm F S : Nat → Int32) (C : Nat → Nat → Int32) (la : Nat) (T1 E1 D1 F1 S1 : Nat → Int32) (C1 : Nat → Nat → Int32) (la1 : Nat) (Lo Se : Nat → Int32) (Ef : Nat → Nat → Int32) (gp gi am li : Int32) (dl : Nat) (u9 v w : Int32) (o : Nat) (g : Nat → Int64) (sz : Nat) (h : ¬ (inR u9 (nI 0) (nI 7) ∧ inR v (nI 0) (nI 5) ∧ inR w (nI 0) (nI 100))) : kMH l yL_setEffect wsL_setEffect rxL_setEffect D (kT cI cZ cO cJ) [.ref (x 0), .int u9, .int v, .int w, .ref o] (wC cI cZ cO x a t b ck Ho T E Dm F S C la T1 E1 D1 F1 S1 C1 la1 Lo Se Ef gp gi am li dl ++ [(o, .inl (cJ, 1, .inr (.inl g)))]) (fun _ : Unit => wC cI cZ cO x a t b ck Ho T E Dm F S C la T1 E1 D1 F1 S1 C1 la1 Lo Se Ef gp gi am li dl ++ [(o, .inl (cJ, 1, .inr (.inl g)))]) 1 6 sz (nI 1) := by
  refine kEnterH (cc := cL_setEffect) (maxL := 6) (ret := some .int) (hh := [(0, 12, 15, 13)]) (by decide +kernel) rfl (Nat.le_of_ble_eq_true rfl) ?_
  intro p e s m below meth c args hx hb hr hml hts hown hlocks htab hK hN A hA9 Q hQ9 hP hD hsz hS hA hX hC ls hl
  have hl : lv_has ls 6 [(0, .ref (x 0)), (1, .int u9), (2, .int v), (3, .int w), (4, .ref o)] := hl
  obtain ⟨H, hH9⟩ : ∃ H, H = s.heap := ⟨_, rfl⟩
  rw [← hH9] at hP ⊢
  have hS : va_S A s.heap H [] := by rw [hH9]; exact va_S.rf
  refine lv_aload hx hb dL_setEffect_0 (lv_at hl 4 rfl) ?_
  refine lv_iconst (v := nI 0) hx hb dL_setEffect_2 (by decide +kernel) ?_
  refine lv_aload_n hx hb dL_setEffect_3 rfl (lv_at hl 0 rfl) ?_
  refine lv_iload_n hx hb dL_setEffect_4 rfl (lv_at hl 1 rfl) ?_
  refine lv_iload_n hx hb dL_setEffect_5 rfl (lv_at hl 2 rfl) ?_
  refine lv_iload_n hx hb dL_setEffect_6 rfl (lv_at hl 3 rfl) ?_
  refine kCallXP_i hP hD hS hA (vx_runV (As := [.int u9, .int v, .int w]) (rest := [.int (nI 0), .ref o]) ⟨hx, hb, hml, hown, hts⟩ (c_X2_setEffect_bad l hst D cI cZ cO cJ x a t b ck Ho T E Dm F S C la T1 E1 D1 F1 S1 C1 la1 Lo Se Ef gp gi am li dl u9 v w H.size h) (cwV (rm := rxX2_setEffect) 3 hts gL_setEffect_X2_setEffect rfl rfl rfl (by decide +kernel) ⟨Nat.le_of_ble_eq_true rfl, Nat.le_of_ble_eq_true rfl⟩) (kPreVXW hK hN hX (pfP hP) (pfD hD) hS (kfree (pfD hD) hS hA) (va_recv hK (pfP hP) (ci := 2) (q0 := 0) rfl rfl)) rfl rfl hl.1 rfl (lv_room (Nat.le_of_ble_eq_true rfl)) dL_setEffect_7 ⟨Nat.le_of_ble_eq_true rfl, Nat.le_of_ble_eq_true rfl⟩) (fun ce q9 H locs hP hD hS hce hcv hcl => ?_)
  refine vx_catch (name := "java/lang/IllegalArgumentException") hown [] ⟨0, 12, 15, 13⟩ [] (by rw [htab]; rfl) (fun z h => absurd h (List.not_mem_nil)) rfl (by decide) (hts (.classLink RL 13 "java/lang/IllegalArgumentException") (by decide +kernel)) (kXw.use xB_iae_ok hX.2.2.2.2.2.2.1 _ (by decide +kernel)) hce hcv hcl ?_
  refine lv_astore (lv' := [(5, .ref q9), (0, .ref (x 0)), (1, .int u9), (2, .int v), (3, .int w), (4, .ref o)]) hx hb dL_setEffect_15 hl (by decide) rfl (fun ls hl => ?_)
  refine lv_iconst (v := nI 1) hx hb dL_setEffect_17 (by decide +kernel) ?_
  subst hQ9
  subst hA9
  exact kRetH_i () hx hb hr hlocks hP hS dL_setEffect_18 rfl

abbrev rmL_setGains : Room := { frames := 2, cells := 0, slots := 0, locals := 44 }
set_option maxHeartbeats 4000000 in
set_option maxRecDepth 100000 in
/-- setGains -/
theorem c_L_setGains (l : Launch) (D : va_G) (cI cZ cO cJ : ClassId) (x a t b : Nat → Nat) (ck : Nat) (Ho T E Dm F S : Nat → Int32) (C : Nat → Nat → Int32) (la : Nat) (T1 E1 D1 F1 S1 : Nat → Int32) (C1 : Nat → Nat → Int32) (la1 : Nat) (Lo Se : Nat → Int32) (Ef : Nat → Nat → Int32) (gp gi am li : Int32) (dl : Nat) (v w : Int32) (sz : Nat) (h1 : ¬ v < nI 0) (h2 : v ≤ nI 200) (h3 : ¬ w < nI 0) (h4 : w ≤ nI 200) : kMH l yL_setGains wsL_setGains rmL_setGains D (kT cI cZ cO cJ) [.ref (x 0), .int v, .int w] (wC cI cZ cO x a t b ck Ho T E Dm F S C la T1 E1 D1 F1 S1 C1 la1 Lo Se Ef gp gi am li dl) (fun _ : Unit => wC cI cZ cO x a t b ck Ho T E Dm F S C la T1 E1 D1 F1 S1 C1 la1 Lo Se Ef v w am li dl) 0 0 sz (nI 0) := by
  refine kEnterH (cc := cL_setGains) (maxL := 4) (ret := some .int) (hh := [(0, 6, 9, 13)]) (by decide +kernel) rfl (Nat.le_of_ble_eq_true rfl) ?_
  intro p e s m below meth c args hx hb hr hml hts hown hlocks htab hK hN A hA9 Q hQ9 hP hD hsz hS hA hX hC ls hl
  have hl : lv_has ls 4 [(0, .ref (x 0)), (1, .int v), (2, .int w)] := hl
  obtain ⟨H, hH9⟩ : ∃ H, H = s.heap := ⟨_, rfl⟩
  rw [← hH9] at hP ⊢
  have hS : va_S A s.heap H [] := by rw [hH9]; exact va_S.rf
  refine lv_aload_n hx hb dL_setGains_0 rfl (lv_at hl 0 rfl) ?_
  refine lv_iload_n hx hb dL_setGains_1 rfl (lv_at hl 1 rfl) ?_
  refine lv_iload_n hx hb dL_setGains_2 rfl (lv_at hl 2 rfl) ?_
  refine kCallW_v (W1 := wC cI cZ cO x a t b ck Ho T E Dm F S C la T1 E1 D1 F1 S1 C1 la1 Lo Se Ef v w am li dl) hD hS hA rfl (va_runV (As := [.int v, .int w]) (rest := []) ⟨hx, hb, hml, hown, hts⟩ (c_X2_setGains l D cI cZ cO cJ x a t b ck Ho T E Dm F S C la T1 E1 D1 F1 S1 C1 la1 Lo Se Ef gp gi am li dl v w H.size h1 h2 h3 h4) (cwV (rm := rmX2_setGains) 2 hts gL_setGains_X2_setGains rfl rfl rfl (by decide +kernel) ⟨Nat.le_of_ble_eq_true rfl, Nat.le_of_ble_eq_true rfl⟩) (kPreVW hK hN hP hD (va_recv hK hP (ci := 2) (q0 := 0) rfl rfl)) rfl rfl hl.1 rfl (lv_room (Nat.le_of_ble_eq_true rfl)) dL_setGains_3 ⟨Nat.zero_le _, Nat.zero_le _⟩) (fun H locs hP hD hS => ?_)
  refine lv_goto (tgt := 12) hx hb dL_setGains_6 (by decide) ?_
  refine lv_iconst (v := nI 0) hx hb dL_setGains_12 (by decide +kernel) ?_
  subst hQ9
  subst hA9
  exact kRetH_i () hx hb hr hlocks hP hS dL_setGains_13 rfl

abbrev rxL_setGains : Room := { frames := 8, cells := 1, slots := 6, locals := 134 }
set_option maxHeartbeats 4000000 in
set_option maxRecDepth 100000 in
/-- setGains_bad -/
theorem c_L_setGains_bad (l : Launch) (hst : l.stackTraces = false) (D : va_G) (cI cZ cO cJ : ClassId) (x a t b : Nat → Nat) (ck : Nat) (Ho T E Dm F S : Nat → Int32) (C : Nat → Nat → Int32) (la : Nat) (T1 E1 D1 F1 S1 : Nat → Int32) (C1 : Nat → Nat → Int32) (la1 : Nat) (Lo Se : Nat → Int32) (Ef : Nat → Nat → Int32) (gp gi am li : Int32) (dl : Nat) (v w : Int32) (sz : Nat) (h : ¬ (inR v (nI 0) (nI 200) ∧ inR w (nI 0) (nI 200))) : kMH l yL_setGains wsL_setGains rxL_setGains D (kT cI cZ cO cJ) [.ref (x 0), .int v, .int w] (wC cI cZ cO x a t b ck Ho T E Dm F S C la T1 E1 D1 F1 S1 C1 la1 Lo Se Ef gp gi am li dl) (fun _ : Unit => wC cI cZ cO x a t b ck Ho T E Dm F S C la T1 E1 D1 F1 S1 C1 la1 Lo Se Ef gp gi am li dl) 1 6 sz (nI 1) := by
  refine kEnterH (cc := cL_setGains) (maxL := 4) (ret := some .int) (hh := [(0, 6, 9, 13)]) (by decide +kernel) rfl (Nat.le_of_ble_eq_true rfl) ?_
  intro p e s m below meth c args hx hb hr hml hts hown hlocks htab hK hN A hA9 Q hQ9 hP hD hsz hS hA hX hC ls hl
  have hl : lv_has ls 4 [(0, .ref (x 0)), (1, .int v), (2, .int w)] := hl
  obtain ⟨H, hH9⟩ : ∃ H, H = s.heap := ⟨_, rfl⟩
  rw [← hH9] at hP ⊢
  have hS : va_S A s.heap H [] := by rw [hH9]; exact va_S.rf
  refine lv_aload_n hx hb dL_setGains_0 rfl (lv_at hl 0 rfl) ?_
  refine lv_iload_n hx hb dL_setGains_1 rfl (lv_at hl 1 rfl) ?_
  refine lv_iload_n hx hb dL_setGains_2 rfl (lv_at hl 2 rfl) ?_
  refine kCallXP_v (T := []) (by rw [List.append_nil]; exact hP) (by rw [List.append_nil]; exact hD) hS hA (vx_runV (As := [.int v, .int w]) (rest := []) ⟨hx, hb, hml, hown, hts⟩ (c_X2_setGains_bad l hst D cI cZ cO cJ x a t b ck Ho T E Dm F S C la T1 E1 D1 F1 S1 C1 la1 Lo Se Ef gp gi am li dl v w H.size h) (cwV (rm := rxX2_setGains) 2 hts gL_setGains_X2_setGains rfl rfl rfl (by decide +kernel) ⟨Nat.le_of_ble_eq_true rfl, Nat.le_of_ble_eq_true rfl⟩) (kPreVXW hK hN hX hP hD hS (kfree hD hS hA) (va_recv hK hP (ci := 2) (q0 := 0) rfl rfl)) rfl rfl hl.1 rfl (lv_room (Nat.le_of_ble_eq_true rfl)) dL_setGains_3 ⟨Nat.le_of_ble_eq_true rfl, Nat.le_of_ble_eq_true rfl⟩) (fun ce q9 H locs hP hD hS hce hcv hcl => ?_)
  rw [List.append_nil] at hP hD
  refine vx_catch (name := "java/lang/IllegalArgumentException") hown [] ⟨0, 6, 9, 13⟩ [] (by rw [htab]; rfl) (fun z h => absurd h (List.not_mem_nil)) rfl (by decide) (hts (.classLink RL 13 "java/lang/IllegalArgumentException") (by decide +kernel)) (kXw.use xB_iae_ok hX.2.2.2.2.2.2.1 _ (by decide +kernel)) hce hcv hcl ?_
  refine lv_astore_n (lv' := [(3, .ref q9), (0, .ref (x 0)), (1, .int v), (2, .int w)]) hx hb dL_setGains_9 rfl hl (by decide) rfl (fun ls hl => ?_)
  refine lv_iconst (v := nI 1) hx hb dL_setGains_10 (by decide +kernel) ?_
  subst hQ9
  subst hA9
  exact kRetH_i () hx hb hr hlocks hP hS dL_setGains_11 rfl

abbrev rmL_setHall : Room := { frames := 2, cells := 0, slots := 0, locals := 44 }
set_option maxHeartbeats 4000000 in
set_option maxRecDepth 100000 in
/-- setHall -/
theorem c_L_setHall (l : Launch) (D : va_G) (cI cZ cO cJ : ClassId) (x a t b : Nat → Nat) (ck : Nat) (Ho T E Dm F S : Nat → Int32) (C : Nat → Nat → Int32) (la : Nat) (T1 E1 D1 F1 S1 : Nat → Int32) (C1 : Nat → Nat → Int32) (la1 : Nat) (Lo Se : Nat → Int32) (Ef : Nat → Nat → Int32) (gp gi am li : Int32) (dl : Nat) (v w : Int32) (sz : Nat) (h1 : ¬ v < nI 1000) (h2 : v ≤ nI 5000) (h3 : ¬ w < nI 1000) (h4 : w ≤ nI 5000) : kMH l yL_setHall wsL_setHall rmL_setHall D (kT cI cZ cO cJ) [.ref (x 0), .int v, .int w] (wC cI cZ cO x a t b ck Ho T E Dm F S C la T1 E1 D1 F1 S1 C1 la1 Lo Se Ef gp gi am li dl) (fun _ : Unit => wC cI cZ cO x a t b ck Ho T E Dm F S C la T1 E1 D1 F1 S1 C1 la1 Lo Se Ef gp gi v w dl) 0 0 sz (nI 0) := by
  refine kEnterH (cc := cL_setHall) (maxL := 4) (ret := some .int) (hh := [(0, 6, 9, 13)]) (by decide +kernel) rfl (Nat.le_of_ble_eq_true rfl) ?_
  intro p e s m below meth c args hx hb hr hml hts hown hlocks htab hK hN A hA9 Q hQ9 hP hD hsz hS hA hX hC ls hl
  have hl : lv_has ls 4 [(0, .ref (x 0)), (1, .int v), (2, .int w)] := hl
  obtain ⟨H, hH9⟩ : ∃ H, H = s.heap := ⟨_, rfl⟩
  rw [← hH9] at hP ⊢
  have hS : va_S A s.heap H [] := by rw [hH9]; exact va_S.rf
  refine lv_aload_n hx hb dL_setHall_0 rfl (lv_at hl 0 rfl) ?_
  refine lv_iload_n hx hb dL_setHall_1 rfl (lv_at hl 1 rfl) ?_
  refine lv_iload_n hx hb dL_setHall_2 rfl (lv_at hl 2 rfl) ?_
  refine kCallW_v (W1 := wC cI cZ cO x a t b ck Ho T E Dm F S C la T1 E1 D1 F1 S1 C1 la1 Lo Se Ef gp gi v w dl) hD hS hA rfl (va_runV (As := [.int v, .int w]) (rest := []) ⟨hx, hb, hml, hown, hts⟩ (c_X2_setHall l D cI cZ cO cJ x a t b ck Ho T E Dm F S C la T1 E1 D1 F1 S1 C1 la1 Lo Se Ef gp gi am li dl v w H.size h1 h2 h3 h4) (cwV (rm := rmX2_setHall) 2 hts gL_setHall_X2_setHall rfl rfl rfl (by decide +kernel) ⟨Nat.le_of_ble_eq_true rfl, Nat.le_of_ble_eq_true rfl⟩) (kPreVW hK hN hP hD (va_recv hK hP (ci := 2) (q0 := 0) rfl rfl)) rfl rfl hl.1 rfl (lv_room (Nat.le_of_ble_eq_true rfl)) dL_setHall_3 ⟨Nat.zero_le _, Nat.zero_le _⟩) (fun H locs hP hD hS => ?_)
  refine lv_goto (tgt := 12) hx hb dL_setHall_6 (by decide) ?_
  refine lv_iconst (v := nI 0) hx hb dL_setHall_12 (by decide +kernel) ?_
  subst hQ9
  subst hA9
  exact kRetH_i () hx hb hr hlocks hP hS dL_setHall_13 rfl

abbrev rxL_setHall : Room := { frames := 8, cells := 1, slots := 6, locals := 134 }
set_option maxHeartbeats 4000000 in
set_option maxRecDepth 100000 in
/-- setHall_bad -/
theorem c_L_setHall_bad (l : Launch) (hst : l.stackTraces = false) (D : va_G) (cI cZ cO cJ : ClassId) (x a t b : Nat → Nat) (ck : Nat) (Ho T E Dm F S : Nat → Int32) (C : Nat → Nat → Int32) (la : Nat) (T1 E1 D1 F1 S1 : Nat → Int32) (C1 : Nat → Nat → Int32) (la1 : Nat) (Lo Se : Nat → Int32) (Ef : Nat → Nat → Int32) (gp gi am li : Int32) (dl : Nat) (v w : Int32) (sz : Nat) (h : ¬ (inR v (nI 1000) (nI 5000) ∧ inR w (nI 1000) (nI 5000))) : kMH l yL_setHall wsL_setHall rxL_setHall D (kT cI cZ cO cJ) [.ref (x 0), .int v, .int w] (wC cI cZ cO x a t b ck Ho T E Dm F S C la T1 E1 D1 F1 S1 C1 la1 Lo Se Ef gp gi am li dl) (fun _ : Unit => wC cI cZ cO x a t b ck Ho T E Dm F S C la T1 E1 D1 F1 S1 C1 la1 Lo Se Ef gp gi am li dl) 1 6 sz (nI 1) := by
  refine kEnterH (cc := cL_setHall) (maxL := 4) (ret := some .int) (hh := [(0, 6, 9, 13)]) (by decide +kernel) rfl (Nat.le_of_ble_eq_true rfl) ?_
  intro p e s m below meth c args hx hb hr hml hts hown hlocks htab hK hN A hA9 Q hQ9 hP hD hsz hS hA hX hC ls hl
  have hl : lv_has ls 4 [(0, .ref (x 0)), (1, .int v), (2, .int w)] := hl
  obtain ⟨H, hH9⟩ : ∃ H, H = s.heap := ⟨_, rfl⟩
  rw [← hH9] at hP ⊢
  have hS : va_S A s.heap H [] := by rw [hH9]; exact va_S.rf
  refine lv_aload_n hx hb dL_setHall_0 rfl (lv_at hl 0 rfl) ?_
  refine lv_iload_n hx hb dL_setHall_1 rfl (lv_at hl 1 rfl) ?_
  refine lv_iload_n hx hb dL_setHall_2 rfl (lv_at hl 2 rfl) ?_
  refine kCallXP_v (T := []) (by rw [List.append_nil]; exact hP) (by rw [List.append_nil]; exact hD) hS hA (vx_runV (As := [.int v, .int w]) (rest := []) ⟨hx, hb, hml, hown, hts⟩ (c_X2_setHall_bad l hst D cI cZ cO cJ x a t b ck Ho T E Dm F S C la T1 E1 D1 F1 S1 C1 la1 Lo Se Ef gp gi am li dl v w H.size h) (cwV (rm := rxX2_setHall) 2 hts gL_setHall_X2_setHall rfl rfl rfl (by decide +kernel) ⟨Nat.le_of_ble_eq_true rfl, Nat.le_of_ble_eq_true rfl⟩) (kPreVXW hK hN hX hP hD hS (kfree hD hS hA) (va_recv hK hP (ci := 2) (q0 := 0) rfl rfl)) rfl rfl hl.1 rfl (lv_room (Nat.le_of_ble_eq_true rfl)) dL_setHall_3 ⟨Nat.le_of_ble_eq_true rfl, Nat.le_of_ble_eq_true rfl⟩) (fun ce q9 H locs hP hD hS hce hcv hcl => ?_)
  rw [List.append_nil] at hP hD
  refine vx_catch (name := "java/lang/IllegalArgumentException") hown [] ⟨0, 6, 9, 13⟩ [] (by rw [htab]; rfl) (fun z h => absurd h (List.not_mem_nil)) rfl (by decide) (hts (.classLink RL 13 "java/lang/IllegalArgumentException") (by decide +kernel)) (kXw.use xB_iae_ok hX.2.2.2.2.2.2.1 _ (by decide +kernel)) hce hcv hcl ?_
  refine lv_astore_n (lv' := [(3, .ref q9), (0, .ref (x 0)), (1, .int v), (2, .int w)]) hx hb dL_setHall_9 rfl hl (by decide) rfl (fun ls hl => ?_)
  refine lv_iconst (v := nI 1) hx hb dL_setHall_10 (by decide +kernel) ?_
  subst hQ9
  subst hA9
  exact kRetH_i () hx hb hr hlocks hP hS dL_setHall_11 rfl

abbrev rmL_setDelay : Room := { frames := 2, cells := 0, slots := 0, locals := 44 }
set_option maxHeartbeats 4000000 in
set_option maxRecDepth 100000 in
/-- setDelay -/
theorem c_L_setDelay (l : Launch) (D : va_G) (cI cZ cO cJ : ClassId) (x a t b : Nat → Nat) (ck : Nat) (Ho T E Dm F S : Nat → Int32) (C : Nat → Nat → Int32) (la : Nat) (T1 E1 D1 F1 S1 : Nat → Int32) (C1 : Nat → Nat → Int32) (la1 : Nat) (Lo Se : Nat → Int32) (Ef : Nat → Nat → Int32) (gp gi am li : Int32) (dl : Nat) (d : Nat) (o : Nat) (g : Nat → Int64) (sz : Nat) (hd : d < 9) : kMH l yL_setDelay wsL_setDelay rmL_setDelay D (kT cI cZ cO cJ) [.ref (x 0), .int (nI d), .ref o] (wC cI cZ cO x a t b ck Ho T E Dm F S C la T1 E1 D1 F1 S1 C1 la1 Lo Se Ef gp gi am li dl ++ [(o, .inl (cJ, 1, .inr (.inl g)))]) (fun _ : Unit => wC cI cZ cO x a t b ck Ho T E Dm F S C la T1 E1 D1 F1 S1 C1 la1 Lo Se Ef gp gi am li d ++ [(o, .inl (cJ, 1, .inr (.inl (vp_updL g 0 ((nI dl)).toInt64))))]) 0 0 sz (nI 0) := by
  refine kEnterH (cc := cL_setDelay) (maxL := 4) (ret := some .int) (hh := [(0, 9, 12, 13)]) (by decide +kernel) rfl (Nat.le_of_ble_eq_true rfl) ?_
  intro p e s m below meth c args hx hb hr hml hts hown hlocks htab hK hN A hA9 Q hQ9 hP hD hsz hS hA hX hC ls hl
  have hl : lv_has ls 4 [(0, .ref (x 0)), (1, .int (nI d)), (2, .ref o)] := hl
  obtain ⟨H, hH9⟩ : ∃ H, H = s.heap := ⟨_, rfl⟩
  rw [← hH9] at hP ⊢
  have hS : va_S A s.heap H [] := by rw [hH9]; exact va_S.rf
  refine lv_aload_n hx hb dL_setDelay_0 rfl (lv_at hl 2 rfl) ?_
  refine lv_iconst (v := nI 0) hx hb dL_setDelay_1 (by decide +kernel) ?_
  refine lv_aload_n hx hb dL_setDelay_2 rfl (lv_at hl 0 rfl) ?_
  refine lv_iload_n hx hb dL_setDelay_3 rfl (lv_at hl 1 rfl) ?_
  refine kCallP_i (W1 := fun _ : Unit => wC cI cZ cO x a t b ck Ho T E Dm F S C la T1 E1 D1 F1 S1 C1 la1 Lo Se Ef gp gi am li d) (fun _ _ h => h) hP hD hS hA (fun _ => rfl) (va_runV (As := [.int (nI d)]) (rest := [.int (nI 0), .ref o]) ⟨hx, hb, hml, hown, hts⟩ (c_X2_setDelay l D cI cZ cO cJ x a t b ck Ho T E Dm F S C la T1 E1 D1 F1 S1 C1 la1 Lo Se Ef gp gi am li dl d H.size hd) (cwV (rm := rmX2_setDelay) 1 hts gL_setDelay_X2_setDelay rfl rfl rfl (by decide +kernel) ⟨Nat.le_of_ble_eq_true rfl, Nat.le_of_ble_eq_true rfl⟩) (kPreVW hK hN (pfP hP) (pfD hD) (va_recv hK (pfP hP) (ci := 2) (q0 := 0) rfl rfl)) rfl rfl hl.1 rfl (lv_room (Nat.le_of_ble_eq_true rfl)) dL_setDelay_4 ⟨Nat.zero_le _, Nat.zero_le _⟩) (fun r9 u H locs hr9 hP hD hS => ?_)
  subst hr9
  refine lv_i2l hx hb dL_setDelay_7 rfl ?_
  refine k_lastS hx hb hK 3 rfl hP hD hS dL_setDelay_8 (fun H locs hP hD hS => ?_)
  refine lv_goto (tgt := 15) hx hb dL_setDelay_9 (by decide) ?_
  refine lv_iconst (v := nI 0) hx hb dL_setDelay_15 (by decide +kernel) ?_
  subst hQ9
  subst hA9
  exact kRetH_i () hx hb hr hlocks hP hS dL_setDelay_16 rfl

abbrev rxL_setDelay : Room := { frames := 8, cells := 1, slots := 6, locals := 134 }
set_option maxHeartbeats 4000000 in
set_option maxRecDepth 100000 in
/-- setDelay_bad -/
theorem c_L_setDelay_bad (l : Launch) (hst : l.stackTraces = false) (D : va_G) (cI cZ cO cJ : ClassId) (x a t b : Nat → Nat) (ck : Nat) (Ho T E Dm F S : Nat → Int32) (C : Nat → Nat → Int32) (la : Nat) (T1 E1 D1 F1 S1 : Nat → Int32) (C1 : Nat → Nat → Int32) (la1 : Nat) (Lo Se : Nat → Int32) (Ef : Nat → Nat → Int32) (gp gi am li : Int32) (dl : Nat) (v : Int32) (o : Nat) (g : Nat → Int64) (sz : Nat) (h : ¬ inR v (nI 0) (nI 8)) : kMH l yL_setDelay wsL_setDelay rxL_setDelay D (kT cI cZ cO cJ) [.ref (x 0), .int v, .ref o] (wC cI cZ cO x a t b ck Ho T E Dm F S C la T1 E1 D1 F1 S1 C1 la1 Lo Se Ef gp gi am li dl ++ [(o, .inl (cJ, 1, .inr (.inl g)))]) (fun _ : Unit => wC cI cZ cO x a t b ck Ho T E Dm F S C la T1 E1 D1 F1 S1 C1 la1 Lo Se Ef gp gi am li dl ++ [(o, .inl (cJ, 1, .inr (.inl g)))]) 1 6 sz (nI 1) := by
  refine kEnterH (cc := cL_setDelay) (maxL := 4) (ret := some .int) (hh := [(0, 9, 12, 13)]) (by decide +kernel) rfl (Nat.le_of_ble_eq_true rfl) ?_
  intro p e s m below meth c args hx hb hr hml hts hown hlocks htab hK hN A hA9 Q hQ9 hP hD hsz hS hA hX hC ls hl
  have hl : lv_has ls 4 [(0, .ref (x 0)), (1, .int v), (2, .ref o)] := hl
  obtain ⟨H, hH9⟩ : ∃ H, H = s.heap := ⟨_, rfl⟩
  rw [← hH9] at hP ⊢
  have hS : va_S A s.heap H [] := by rw [hH9]; exact va_S.rf
  refine lv_aload_n hx hb dL_setDelay_0 rfl (lv_at hl 2 rfl) ?_
  refine lv_iconst (v := nI 0) hx hb dL_setDelay_1 (by decide +kernel) ?_
  refine lv_aload_n hx hb dL_setDelay_2 rfl (lv_at hl 0 rfl) ?_
  refine lv_iload_n hx hb dL_setDelay_3 rfl (lv_at hl 1 rfl) ?_
  refine kCallXP_i hP hD hS hA (vx_runV (As := [.int v]) (rest := [.int (nI 0), .ref o]) ⟨hx, hb, hml, hown, hts⟩ (c_X2_setDelay_bad l hst D cI cZ cO cJ x a t b ck Ho T E Dm F S C la T1 E1 D1 F1 S1 C1 la1 Lo Se Ef gp gi am li dl v H.size h) (cwV (rm := rxX2_setDelay) 1 hts gL_setDelay_X2_setDelay rfl rfl rfl (by decide +kernel) ⟨Nat.le_of_ble_eq_true rfl, Nat.le_of_ble_eq_true rfl⟩) (kPreVXW hK hN hX (pfP hP) (pfD hD) hS (kfree (pfD hD) hS hA) (va_recv hK (pfP hP) (ci := 2) (q0 := 0) rfl rfl)) rfl rfl hl.1 rfl (lv_room (Nat.le_of_ble_eq_true rfl)) dL_setDelay_4 ⟨Nat.le_of_ble_eq_true rfl, Nat.le_of_ble_eq_true rfl⟩) (fun ce q9 H locs hP hD hS hce hcv hcl => ?_)
  refine vx_catch (name := "java/lang/IllegalArgumentException") hown [] ⟨0, 9, 12, 13⟩ [] (by rw [htab]; rfl) (fun z h => absurd h (List.not_mem_nil)) rfl (by decide) (hts (.classLink RL 13 "java/lang/IllegalArgumentException") (by decide +kernel)) (kXw.use xB_iae_ok hX.2.2.2.2.2.2.1 _ (by decide +kernel)) hce hcv hcl ?_
  refine lv_astore_n (lv' := [(3, .ref q9), (0, .ref (x 0)), (1, .int v), (2, .ref o)]) hx hb dL_setDelay_12 rfl hl (by decide) rfl (fun ls hl => ?_)
  refine lv_iconst (v := nI 1) hx hb dL_setDelay_13 (by decide +kernel) ?_
  subst hQ9
  subst hA9
  exact kRetH_i () hx hb hr hlocks hP hS dL_setDelay_14 rfl

abbrev rmL_fail : Room := { frames := 3, cells := 0, slots := 0, locals := 63 }
set_option maxHeartbeats 4000000 in
set_option maxRecDepth 100000 in
/-- fail -/
theorem c_L_fail (l : Launch) (D : va_G) (cI cZ cO cJ : ClassId) (x a t b : Nat → Nat) (ck : Nat) (Ho T E Dm F S : Nat → Int32) (C : Nat → Nat → Int32) (la : Nat) (T1 E1 D1 F1 S1 : Nat → Int32) (C1 : Nat → Nat → Int32) (la1 : Nat) (Lo Se : Nat → Int32) (Ef : Nat → Nat → Int32) (gp gi am li : Int32) (dl : Nat) (f : Nat) (o : Nat) (g : Nat → Int64) (sz : Nat) (hf : f < 8) (hF : F f = 0) : kMH l yL_fail wsL_fail rmL_fail D (kT cI cZ cO cJ) [.ref (x 0), .int (nI f), .ref o] (wC cI cZ cO x a t b ck Ho T E Dm F S C la T1 E1 D1 F1 S1 C1 la1 Lo Se Ef gp gi am li dl ++ [(o, .inl (cJ, 1, .inr (.inl g)))]) (fun _ : Unit => wC cI cZ cO x a t b ck Ho T E Dm (upd F f (nI 1)) (upd S f (nI 0)) C la T1 E1 D1 F1 S1 C1 la1 Lo Se Ef gp gi am li dl ++ [(o, .inl (cJ, 1, .inr (.inl (vp_updL g 0 ((mCnt (upd F f (nI 1)) 8)).toInt64))))]) 0 0 sz (nI 0) := by
  refine kEnterH (cc := cL_fail) (maxL := 4) (ret := some .int) (hh := [(0, 9, 12, 13), (0, 9, 15, 36)]) (by decide +kernel) rfl (Nat.le_of_ble_eq_true rfl) ?_
  intro p e s m below meth c args hx hb hr hml hts hown hlocks htab hK hN A hA9 Q hQ9 hP hD hsz hS hA hX hC ls hl
  have hl : lv_has ls 4 [(0, .ref (x 0)), (1, .int (nI f)), (2, .ref o)] := hl
  obtain ⟨H, hH9⟩ : ∃ H, H = s.heap := ⟨_, rfl⟩
  rw [← hH9] at hP ⊢
  have hS : va_S A s.heap H [] := by rw [hH9]; exact va_S.rf
  refine lv_aload_n hx hb dL_fail_0 rfl (lv_at hl 2 rfl) ?_
  refine lv_iconst (v := nI 0) hx hb dL_fail_1 (by decide +kernel) ?_
  refine lv_aload_n hx hb dL_fail_2 rfl (lv_at hl 0 rfl) ?_
  refine lv_iload_n hx hb dL_fail_3 rfl (lv_at hl 1 rfl) ?_
  refine kCallP_i (W1 := fun _ : Unit => wC cI cZ cO x a t b ck Ho T E Dm (upd F f (nI 1)) (upd S f (nI 0)) C la T1 E1 D1 F1 S1 C1 la1 Lo Se Ef gp gi am li dl) (fun _ _ h => h) hP hD hS hA (fun _ => rfl) (va_runV (As := [.int (nI f)]) (rest := [.int (nI 0), .ref o]) ⟨hx, hb, hml, hown, hts⟩ (c_X2_fail l D cI cZ cO cJ x a t b ck Ho T E Dm F S C la T1 E1 D1 F1 S1 C1 la1 Lo Se Ef gp gi am li dl f H.size hf hF) (cwV (rm := rmX2_fail) 1 hts gL_fail_X2_fail rfl rfl rfl (by decide +kernel) ⟨Nat.le_of_ble_eq_true rfl, Nat.le_of_ble_eq_true rfl⟩) (kPreVW hK hN (pfP hP) (pfD hD) (va_recv hK (pfP hP) (ci := 2) (q0 := 0) rfl rfl)) rfl rfl hl.1 rfl (lv_room (Nat.le_of_ble_eq_true rfl)) dL_fail_4 ⟨Nat.zero_le _, Nat.zero_le _⟩) (fun r9 u H locs hr9 hP hD hS => ?_)
  subst hr9
  refine lv_i2l hx hb dL_fail_7 rfl ?_
  refine k_lastS hx hb hK 3 rfl hP hD hS dL_fail_8 (fun H locs hP hD hS => ?_)
  refine lv_goto (tgt := 18) hx hb dL_fail_9 (by decide) ?_
  refine lv_iconst (v := nI 0) hx hb dL_fail_18 (by decide +kernel) ?_
  subst hQ9
  subst hA9
  exact kRetH_i () hx hb hr hlocks hP hS dL_fail_19 rfl

abbrev rxL_fail : Room := { frames := 9, cells := 1, slots := 6, locals := 153 }
set_option maxHeartbeats 4000000 in
set_option maxRecDepth 100000 in
/-- fail_bad -/
theorem c_L_fail_bad (l : Launch) (hst : l.stackTraces = false) (D : va_G) (cI cZ cO cJ : ClassId) (x a t b : Nat → Nat) (ck : Nat) (Ho T E Dm F S : Nat → Int32) (C : Nat → Nat → Int32) (la : Nat) (T1 E1 D1 F1 S1 : Nat → Int32) (C1 : Nat → Nat → Int32) (la1 : Nat) (Lo Se : Nat → Int32) (Ef : Nat → Nat → Int32) (gp gi am li : Int32) (dl : Nat) (v : Int32) (o : Nat) (g : Nat → Int64) (sz : Nat) (h : ¬ inR v (nI 0) (nI 7)) : kMH l yL_fail wsL_fail rxL_fail D (kT cI cZ cO cJ) [.ref (x 0), .int v, .ref o] (wC cI cZ cO x a t b ck Ho T E Dm F S C la T1 E1 D1 F1 S1 C1 la1 Lo Se Ef gp gi am li dl ++ [(o, .inl (cJ, 1, .inr (.inl g)))]) (fun _ : Unit => wC cI cZ cO x a t b ck Ho T E Dm F S C la T1 E1 D1 F1 S1 C1 la1 Lo Se Ef gp gi am li dl ++ [(o, .inl (cJ, 1, .inr (.inl g)))]) 1 6 sz (nI 1) := by
  refine kEnterH (cc := cL_fail) (maxL := 4) (ret := some .int) (hh := [(0, 9, 12, 13), (0, 9, 15, 36)]) (by decide +kernel) rfl (Nat.le_of_ble_eq_true rfl) ?_
  intro p e s m below meth c args hx hb hr hml hts hown hlocks htab hK hN A hA9 Q hQ9 hP hD hsz hS hA hX hC ls hl
  have hl : lv_has ls 4 [(0, .ref (x 0)), (1, .int v), (2, .ref o)] := hl
  obtain ⟨H, hH9⟩ : ∃ H, H = s.heap := ⟨_, rfl⟩
  rw [← hH9] at hP ⊢
  have hS : va_S A s.heap H [] := by rw [hH9]; exact va_S.rf
  refine lv_aload_n hx hb dL_fail_0 rfl (lv_at hl 2 rfl) ?_
  refine lv_iconst (v := nI 0) hx hb dL_fail_1 (by decide +kernel) ?_
  refine lv_aload_n hx hb dL_fail_2 rfl (lv_at hl 0 rfl) ?_
  refine lv_iload_n hx hb dL_fail_3 rfl (lv_at hl 1 rfl) ?_
  refine kCallXP_i hP hD hS hA (vx_runV (As := [.int v]) (rest := [.int (nI 0), .ref o]) ⟨hx, hb, hml, hown, hts⟩ (c_X2_fail_bad l hst D cI cZ cO cJ x a t b ck Ho T E Dm F S C la T1 E1 D1 F1 S1 C1 la1 Lo Se Ef gp gi am li dl v H.size h) (cwV (rm := rxX2_fail) 1 hts gL_fail_X2_fail rfl rfl rfl (by decide +kernel) ⟨Nat.le_of_ble_eq_true rfl, Nat.le_of_ble_eq_true rfl⟩) (kPreVXW hK hN hX (pfP hP) (pfD hD) hS (kfree (pfD hD) hS hA) (va_recv hK (pfP hP) (ci := 2) (q0 := 0) rfl rfl)) rfl rfl hl.1 rfl (lv_room (Nat.le_of_ble_eq_true rfl)) dL_fail_4 ⟨Nat.le_of_ble_eq_true rfl, Nat.le_of_ble_eq_true rfl⟩) (fun ce q9 H locs hP hD hS hce hcv hcl => ?_)
  refine vx_catch (name := "java/lang/IllegalArgumentException") hown [] ⟨0, 9, 12, 13⟩ [⟨0, 9, 15, 36⟩] (by rw [htab]; rfl) (fun z h => absurd h (List.not_mem_nil)) rfl (by decide) (hts (.classLink RL 13 "java/lang/IllegalArgumentException") (by decide +kernel)) (kXw.use xB_iae_ok hX.2.2.2.2.2.2.1 _ (by decide +kernel)) hce hcv hcl ?_
  refine lv_astore_n (lv' := [(3, .ref q9), (0, .ref (x 0)), (1, .int v), (2, .ref o)]) hx hb dL_fail_12 rfl hl (by decide) rfl (fun ls hl => ?_)
  refine lv_iconst (v := nI 1) hx hb dL_fail_13 (by decide +kernel) ?_
  subst hQ9
  subst hA9
  exact kRetH_i () hx hb hr hlocks hP hS dL_fail_14 rfl

set_option maxHeartbeats 4000000 in
set_option maxRecDepth 100000 in
/-- fail_two -/
theorem c_L_fail_two (l : Launch) (hst : l.stackTraces = false) (D : va_G) (cI cZ cO cJ : ClassId) (x a t b : Nat → Nat) (ck : Nat) (Ho T E Dm F S : Nat → Int32) (C : Nat → Nat → Int32) (la : Nat) (T1 E1 D1 F1 S1 : Nat → Int32) (C1 : Nat → Nat → Int32) (la1 : Nat) (Lo Se : Nat → Int32) (Ef : Nat → Nat → Int32) (gp gi am li : Int32) (dl : Nat) (f : Nat) (o : Nat) (g : Nat → Int64) (sz : Nat) (hf : f < 8) (hF : ¬ F f = 0) : kMH l yL_fail wsL_fail rxL_fail D (kT cI cZ cO cJ) [.ref (x 0), .int (nI f), .ref o] (wC cI cZ cO x a t b ck Ho T E Dm F S C la T1 E1 D1 F1 S1 C1 la1 Lo Se Ef gp gi am li dl ++ [(o, .inl (cJ, 1, .inr (.inl g)))]) (fun _ : Unit => wC cI cZ cO x a t b ck Ho T E Dm F S C la T1 E1 D1 F1 S1 C1 la1 Lo Se Ef gp gi am li dl ++ [(o, .inl (cJ, 1, .inr (.inl g)))]) 1 6 sz (nI 2) := by
  refine kEnterH (cc := cL_fail) (maxL := 4) (ret := some .int) (hh := [(0, 9, 12, 13), (0, 9, 15, 36)]) (by decide +kernel) rfl (Nat.le_of_ble_eq_true rfl) ?_
  intro p e s m below meth c args hx hb hr hml hts hown hlocks htab hK hN A hA9 Q hQ9 hP hD hsz hS hA hX hC ls hl
  have hl : lv_has ls 4 [(0, .ref (x 0)), (1, .int (nI f)), (2, .ref o)] := hl
  obtain ⟨H, hH9⟩ : ∃ H, H = s.heap := ⟨_, rfl⟩
  rw [← hH9] at hP ⊢
  have hS : va_S A s.heap H [] := by rw [hH9]; exact va_S.rf
  refine lv_aload_n hx hb dL_fail_0 rfl (lv_at hl 2 rfl) ?_
  refine lv_iconst (v := nI 0) hx hb dL_fail_1 (by decide +kernel) ?_
  refine lv_aload_n hx hb dL_fail_2 rfl (lv_at hl 0 rfl) ?_
  refine lv_iload_n hx hb dL_fail_3 rfl (lv_at hl 1 rfl) ?_
  refine kCallXP_i hP hD hS hA (vx_runV (As := [.int (nI f)]) (rest := [.int (nI 0), .ref o]) ⟨hx, hb, hml, hown, hts⟩ (c_X2_fail_two l hst D cI cZ cO cJ x a t b ck Ho T E Dm F S C la T1 E1 D1 F1 S1 C1 la1 Lo Se Ef gp gi am li dl f H.size hf hF) (cwV (rm := rxX2_fail) 1 hts gL_fail_X2_fail rfl rfl rfl (by decide +kernel) ⟨Nat.le_of_ble_eq_true rfl, Nat.le_of_ble_eq_true rfl⟩) (kPreVXW hK hN hX (pfP hP) (pfD hD) hS (kfree (pfD hD) hS hA) (va_recv hK (pfP hP) (ci := 2) (q0 := 0) rfl rfl)) rfl rfl hl.1 rfl (lv_room (Nat.le_of_ble_eq_true rfl)) dL_fail_4 ⟨Nat.le_of_ble_eq_true rfl, Nat.le_of_ble_eq_true rfl⟩) (fun ce q9 H locs hP hD hS hce hcv hcl => ?_)
  refine vx_catch (name := "java/lang/IllegalStateException") hown [⟨0, 9, 12, 13⟩] ⟨0, 9, 15, 36⟩ [] (by rw [htab]; rfl) (fun z h => by rw [List.mem_singleton.mp h]; exact Or.inr ⟨by decide, "java/lang/IllegalArgumentException", hts (.classLink RL 13 "java/lang/IllegalArgumentException") (by decide +kernel), hC⟩) rfl (by decide) (hts (.classLink RL 36 "java/lang/IllegalStateException") (by decide +kernel)) (kXw.use xB_ise_ok hX.2.2.2.2.2.2.2 _ (by decide +kernel)) hce hcv hcl ?_
  refine lv_astore_n (lv' := [(3, .ref q9), (0, .ref (x 0)), (1, .int (nI f)), (2, .ref o)]) hx hb dL_fail_15 rfl hl (by decide) rfl (fun ls hl => ?_)
  refine lv_iconst (v := nI 2) hx hb dL_fail_16 (by decide +kernel) ?_
  subst hQ9
  subst hA9
  exact kRetH_i () hx hb hr hlocks hP hS dL_fail_17 rfl

abbrev rmL_repair : Room := { frames := 3, cells := 0, slots := 0, locals := 63 }
set_option maxHeartbeats 4000000 in
set_option maxRecDepth 100000 in
/-- repair -/
theorem c_L_repair (l : Launch) (D : va_G) (cI cZ cO cJ : ClassId) (x a t b : Nat → Nat) (ck : Nat) (Ho T E Dm F S : Nat → Int32) (C : Nat → Nat → Int32) (la : Nat) (T1 E1 D1 F1 S1 : Nat → Int32) (C1 : Nat → Nat → Int32) (la1 : Nat) (Lo Se : Nat → Int32) (Ef : Nat → Nat → Int32) (gp gi am li : Int32) (dl : Nat) (f : Nat) (o : Nat) (g : Nat → Int64) (sz : Nat) (hf : f < 8) (hF : ¬ F f = 0) : kMH l yL_repair wsL_repair rmL_repair D (kT cI cZ cO cJ) [.ref (x 0), .int (nI f), .ref o] (wC cI cZ cO x a t b ck Ho T E Dm F S C la T1 E1 D1 F1 S1 C1 la1 Lo Se Ef gp gi am li dl ++ [(o, .inl (cJ, 1, .inr (.inl g)))]) (fun _ : Unit => wC cI cZ cO x a t b ck Ho T E Dm (upd F f (nI 0)) S C la T1 E1 D1 F1 S1 C1 la1 Lo Se Ef gp gi am li dl ++ [(o, .inl (cJ, 1, .inr (.inl (vp_updL g 0 ((mCnt (upd F f (nI 0)) 8)).toInt64))))]) 0 0 sz (nI 0) := by
  refine kEnterH (cc := cL_repair) (maxL := 4) (ret := some .int) (hh := [(0, 9, 12, 13), (0, 9, 15, 36)]) (by decide +kernel) rfl (Nat.le_of_ble_eq_true rfl) ?_
  intro p e s m below meth c args hx hb hr hml hts hown hlocks htab hK hN A hA9 Q hQ9 hP hD hsz hS hA hX hC ls hl
  have hl : lv_has ls 4 [(0, .ref (x 0)), (1, .int (nI f)), (2, .ref o)] := hl
  obtain ⟨H, hH9⟩ : ∃ H, H = s.heap := ⟨_, rfl⟩
  rw [← hH9] at hP ⊢
  have hS : va_S A s.heap H [] := by rw [hH9]; exact va_S.rf
  refine lv_aload_n hx hb dL_repair_0 rfl (lv_at hl 2 rfl) ?_
  refine lv_iconst (v := nI 0) hx hb dL_repair_1 (by decide +kernel) ?_
  refine lv_aload_n hx hb dL_repair_2 rfl (lv_at hl 0 rfl) ?_
  refine lv_iload_n hx hb dL_repair_3 rfl (lv_at hl 1 rfl) ?_
  refine kCallP_i (W1 := fun _ : Unit => wC cI cZ cO x a t b ck Ho T E Dm (upd F f (nI 0)) S C la T1 E1 D1 F1 S1 C1 la1 Lo Se Ef gp gi am li dl) (fun _ _ h => h) hP hD hS hA (fun _ => rfl) (va_runV (As := [.int (nI f)]) (rest := [.int (nI 0), .ref o]) ⟨hx, hb, hml, hown, hts⟩ (c_X2_repair l D cI cZ cO cJ x a t b ck Ho T E Dm F S C la T1 E1 D1 F1 S1 C1 la1 Lo Se Ef gp gi am li dl f H.size hf hF) (cwV (rm := rmX2_repair) 1 hts gL_repair_X2_repair rfl rfl rfl (by decide +kernel) ⟨Nat.le_of_ble_eq_true rfl, Nat.le_of_ble_eq_true rfl⟩) (kPreVW hK hN (pfP hP) (pfD hD) (va_recv hK (pfP hP) (ci := 2) (q0 := 0) rfl rfl)) rfl rfl hl.1 rfl (lv_room (Nat.le_of_ble_eq_true rfl)) dL_repair_4 ⟨Nat.zero_le _, Nat.zero_le _⟩) (fun r9 u H locs hr9 hP hD hS => ?_)
  subst hr9
  refine lv_i2l hx hb dL_repair_7 rfl ?_
  refine k_lastS hx hb hK 3 rfl hP hD hS dL_repair_8 (fun H locs hP hD hS => ?_)
  refine lv_goto (tgt := 18) hx hb dL_repair_9 (by decide) ?_
  refine lv_iconst (v := nI 0) hx hb dL_repair_18 (by decide +kernel) ?_
  subst hQ9
  subst hA9
  exact kRetH_i () hx hb hr hlocks hP hS dL_repair_19 rfl

abbrev rxL_repair : Room := { frames := 9, cells := 1, slots := 6, locals := 153 }
set_option maxHeartbeats 4000000 in
set_option maxRecDepth 100000 in
/-- repair_bad -/
theorem c_L_repair_bad (l : Launch) (hst : l.stackTraces = false) (D : va_G) (cI cZ cO cJ : ClassId) (x a t b : Nat → Nat) (ck : Nat) (Ho T E Dm F S : Nat → Int32) (C : Nat → Nat → Int32) (la : Nat) (T1 E1 D1 F1 S1 : Nat → Int32) (C1 : Nat → Nat → Int32) (la1 : Nat) (Lo Se : Nat → Int32) (Ef : Nat → Nat → Int32) (gp gi am li : Int32) (dl : Nat) (v : Int32) (o : Nat) (g : Nat → Int64) (sz : Nat) (h : ¬ inR v (nI 0) (nI 7)) : kMH l yL_repair wsL_repair rxL_repair D (kT cI cZ cO cJ) [.ref (x 0), .int v, .ref o] (wC cI cZ cO x a t b ck Ho T E Dm F S C la T1 E1 D1 F1 S1 C1 la1 Lo Se Ef gp gi am li dl ++ [(o, .inl (cJ, 1, .inr (.inl g)))]) (fun _ : Unit => wC cI cZ cO x a t b ck Ho T E Dm F S C la T1 E1 D1 F1 S1 C1 la1 Lo Se Ef gp gi am li dl ++ [(o, .inl (cJ, 1, .inr (.inl g)))]) 1 6 sz (nI 1) := by
  refine kEnterH (cc := cL_repair) (maxL := 4) (ret := some .int) (hh := [(0, 9, 12, 13), (0, 9, 15, 36)]) (by decide +kernel) rfl (Nat.le_of_ble_eq_true rfl) ?_
  intro p e s m below meth c args hx hb hr hml hts hown hlocks htab hK hN A hA9 Q hQ9 hP hD hsz hS hA hX hC ls hl
  have hl : lv_has ls 4 [(0, .ref (x 0)), (1, .int v), (2, .ref o)] := hl
  obtain ⟨H, hH9⟩ : ∃ H, H = s.heap := ⟨_, rfl⟩
  rw [← hH9] at hP ⊢
  have hS : va_S A s.heap H [] := by rw [hH9]; exact va_S.rf
  refine lv_aload_n hx hb dL_repair_0 rfl (lv_at hl 2 rfl) ?_
  refine lv_iconst (v := nI 0) hx hb dL_repair_1 (by decide +kernel) ?_
  refine lv_aload_n hx hb dL_repair_2 rfl (lv_at hl 0 rfl) ?_
  refine lv_iload_n hx hb dL_repair_3 rfl (lv_at hl 1 rfl) ?_
  refine kCallXP_i hP hD hS hA (vx_runV (As := [.int v]) (rest := [.int (nI 0), .ref o]) ⟨hx, hb, hml, hown, hts⟩ (c_X2_repair_bad l hst D cI cZ cO cJ x a t b ck Ho T E Dm F S C la T1 E1 D1 F1 S1 C1 la1 Lo Se Ef gp gi am li dl v H.size h) (cwV (rm := rxX2_repair) 1 hts gL_repair_X2_repair rfl rfl rfl (by decide +kernel) ⟨Nat.le_of_ble_eq_true rfl, Nat.le_of_ble_eq_true rfl⟩) (kPreVXW hK hN hX (pfP hP) (pfD hD) hS (kfree (pfD hD) hS hA) (va_recv hK (pfP hP) (ci := 2) (q0 := 0) rfl rfl)) rfl rfl hl.1 rfl (lv_room (Nat.le_of_ble_eq_true rfl)) dL_repair_4 ⟨Nat.le_of_ble_eq_true rfl, Nat.le_of_ble_eq_true rfl⟩) (fun ce q9 H locs hP hD hS hce hcv hcl => ?_)
  refine vx_catch (name := "java/lang/IllegalArgumentException") hown [] ⟨0, 9, 12, 13⟩ [⟨0, 9, 15, 36⟩] (by rw [htab]; rfl) (fun z h => absurd h (List.not_mem_nil)) rfl (by decide) (hts (.classLink RL 13 "java/lang/IllegalArgumentException") (by decide +kernel)) (kXw.use xB_iae_ok hX.2.2.2.2.2.2.1 _ (by decide +kernel)) hce hcv hcl ?_
  refine lv_astore_n (lv' := [(3, .ref q9), (0, .ref (x 0)), (1, .int v), (2, .ref o)]) hx hb dL_repair_12 rfl hl (by decide) rfl (fun ls hl => ?_)
  refine lv_iconst (v := nI 1) hx hb dL_repair_13 (by decide +kernel) ?_
  subst hQ9
  subst hA9
  exact kRetH_i () hx hb hr hlocks hP hS dL_repair_14 rfl

set_option maxHeartbeats 4000000 in
set_option maxRecDepth 100000 in
/-- repair_two -/
theorem c_L_repair_two (l : Launch) (hst : l.stackTraces = false) (D : va_G) (cI cZ cO cJ : ClassId) (x a t b : Nat → Nat) (ck : Nat) (Ho T E Dm F S : Nat → Int32) (C : Nat → Nat → Int32) (la : Nat) (T1 E1 D1 F1 S1 : Nat → Int32) (C1 : Nat → Nat → Int32) (la1 : Nat) (Lo Se : Nat → Int32) (Ef : Nat → Nat → Int32) (gp gi am li : Int32) (dl : Nat) (f : Nat) (o : Nat) (g : Nat → Int64) (sz : Nat) (hf : f < 8) (hF : F f = 0) : kMH l yL_repair wsL_repair rxL_repair D (kT cI cZ cO cJ) [.ref (x 0), .int (nI f), .ref o] (wC cI cZ cO x a t b ck Ho T E Dm F S C la T1 E1 D1 F1 S1 C1 la1 Lo Se Ef gp gi am li dl ++ [(o, .inl (cJ, 1, .inr (.inl g)))]) (fun _ : Unit => wC cI cZ cO x a t b ck Ho T E Dm F S C la T1 E1 D1 F1 S1 C1 la1 Lo Se Ef gp gi am li dl ++ [(o, .inl (cJ, 1, .inr (.inl g)))]) 1 6 sz (nI 2) := by
  refine kEnterH (cc := cL_repair) (maxL := 4) (ret := some .int) (hh := [(0, 9, 12, 13), (0, 9, 15, 36)]) (by decide +kernel) rfl (Nat.le_of_ble_eq_true rfl) ?_
  intro p e s m below meth c args hx hb hr hml hts hown hlocks htab hK hN A hA9 Q hQ9 hP hD hsz hS hA hX hC ls hl
  have hl : lv_has ls 4 [(0, .ref (x 0)), (1, .int (nI f)), (2, .ref o)] := hl
  obtain ⟨H, hH9⟩ : ∃ H, H = s.heap := ⟨_, rfl⟩
  rw [← hH9] at hP ⊢
  have hS : va_S A s.heap H [] := by rw [hH9]; exact va_S.rf
  refine lv_aload_n hx hb dL_repair_0 rfl (lv_at hl 2 rfl) ?_
  refine lv_iconst (v := nI 0) hx hb dL_repair_1 (by decide +kernel) ?_
  refine lv_aload_n hx hb dL_repair_2 rfl (lv_at hl 0 rfl) ?_
  refine lv_iload_n hx hb dL_repair_3 rfl (lv_at hl 1 rfl) ?_
  refine kCallXP_i hP hD hS hA (vx_runV (As := [.int (nI f)]) (rest := [.int (nI 0), .ref o]) ⟨hx, hb, hml, hown, hts⟩ (c_X2_repair_two l hst D cI cZ cO cJ x a t b ck Ho T E Dm F S C la T1 E1 D1 F1 S1 C1 la1 Lo Se Ef gp gi am li dl f H.size hf hF) (cwV (rm := rxX2_repair) 1 hts gL_repair_X2_repair rfl rfl rfl (by decide +kernel) ⟨Nat.le_of_ble_eq_true rfl, Nat.le_of_ble_eq_true rfl⟩) (kPreVXW hK hN hX (pfP hP) (pfD hD) hS (kfree (pfD hD) hS hA) (va_recv hK (pfP hP) (ci := 2) (q0 := 0) rfl rfl)) rfl rfl hl.1 rfl (lv_room (Nat.le_of_ble_eq_true rfl)) dL_repair_4 ⟨Nat.le_of_ble_eq_true rfl, Nat.le_of_ble_eq_true rfl⟩) (fun ce q9 H locs hP hD hS hce hcv hcl => ?_)
  refine vx_catch (name := "java/lang/IllegalStateException") hown [⟨0, 9, 12, 13⟩] ⟨0, 9, 15, 36⟩ [] (by rw [htab]; rfl) (fun z h => by rw [List.mem_singleton.mp h]; exact Or.inr ⟨by decide, "java/lang/IllegalArgumentException", hts (.classLink RL 13 "java/lang/IllegalArgumentException") (by decide +kernel), hC⟩) rfl (by decide) (hts (.classLink RL 36 "java/lang/IllegalStateException") (by decide +kernel)) (kXw.use xB_ise_ok hX.2.2.2.2.2.2.2 _ (by decide +kernel)) hce hcv hcl ?_
  refine lv_astore_n (lv' := [(3, .ref q9), (0, .ref (x 0)), (1, .int (nI f)), (2, .ref o)]) hx hb dL_repair_15 rfl hl (by decide) rfl (fun ls hl => ?_)
  refine lv_iconst (v := nI 2) hx hb dL_repair_16 (by decide +kernel) ?_
  subst hQ9
  subst hA9
  exact kRetH_i () hx hb hr hlocks hP hS dL_repair_17 rfl

abbrev rmL_command : Room := { frames := 3, cells := 0, slots := 0, locals := 64 }
set_option maxHeartbeats 4000000 in
set_option maxRecDepth 100000 in
/-- command -/
theorem c_L_command (l : Launch) (D : va_G) (cI cZ cO cJ : ClassId) (x a t b : Nat → Nat) (ck : Nat) (Ho T E Dm F S : Nat → Int32) (C : Nat → Nat → Int32) (la : Nat) (T1 E1 D1 F1 S1 : Nat → Int32) (C1 : Nat → Nat → Int32) (la1 : Nat) (Lo Se : Nat → Int32) (Ef : Nat → Nat → Int32) (gp gi am li : Int32) (dl : Nat) (f : Nat) (o : Nat) (g : Nat → Int64) (sz : Nat) (hf : f < 8) (h8 : la < 9) : kMH l yL_command wsL_command rmL_command D (kT cI cZ cO cJ) [.ref (x 0), .int (nI f), .ref o] (wC cI cZ cO x a t b ck Ho T E Dm F S C la T1 E1 D1 F1 S1 C1 la1 Lo Se Ef gp gi am li dl ++ [(o, .inl (cJ, 1, .inr (.inl g)))]) (fun _ : Unit => wC cI cZ cO x a t b ck Ho T E Dm F S C la T1 E1 D1 F1 S1 C1 la1 Lo Se Ef gp gi am li dl ++ [(o, .inl (cJ, 1, .inr (.inl (vp_updL g 0 ((C la f)).toInt64))))]) 0 0 sz (nI 0) := by
  refine kEnterH (cc := cL_command) (maxL := 4) (ret := some .int) (hh := [(0, 9, 12, 13)]) (by decide +kernel) rfl (Nat.le_of_ble_eq_true rfl) ?_
  intro p e s m below meth c args hx hb hr hml hts hown hlocks htab hK hN A hA9 Q hQ9 hP hD hsz hS hA hX hC ls hl
  have hl : lv_has ls 4 [(0, .ref (x 0)), (1, .int (nI f)), (2, .ref o)] := hl
  obtain ⟨H, hH9⟩ : ∃ H, H = s.heap := ⟨_, rfl⟩
  rw [← hH9] at hP ⊢
  have hS : va_S A s.heap H [] := by rw [hH9]; exact va_S.rf
  refine lv_aload_n hx hb dL_command_0 rfl (lv_at hl 2 rfl) ?_
  refine lv_iconst (v := nI 0) hx hb dL_command_1 (by decide +kernel) ?_
  refine lv_aload_n hx hb dL_command_2 rfl (lv_at hl 0 rfl) ?_
  refine lv_iload_n hx hb dL_command_3 rfl (lv_at hl 1 rfl) ?_
  refine kCallP_i (W1 := fun _ : Unit => wC cI cZ cO x a t b ck Ho T E Dm F S C la T1 E1 D1 F1 S1 C1 la1 Lo Se Ef gp gi am li dl) (fun _ _ h => h) hP hD hS hA (fun _ => rfl) (va_runV (As := [.int (nI f)]) (rest := [.int (nI 0), .ref o]) ⟨hx, hb, hml, hown, hts⟩ (c_X2_command l D cI cZ cO cJ x a t b ck Ho T E Dm F S C la T1 E1 D1 F1 S1 C1 la1 Lo Se Ef gp gi am li dl f H.size hf h8) (cwV (rm := rmX2_command) 1 hts gL_command_X2_command rfl rfl rfl (by decide +kernel) ⟨Nat.le_of_ble_eq_true rfl, Nat.le_of_ble_eq_true rfl⟩) (kPreVW hK hN (pfP hP) (pfD hD) (va_recv hK (pfP hP) (ci := 2) (q0 := 0) rfl rfl)) rfl rfl hl.1 rfl (lv_room (Nat.le_of_ble_eq_true rfl)) dL_command_4 ⟨Nat.zero_le _, Nat.zero_le _⟩) (fun r9 u H locs hr9 hP hD hS => ?_)
  subst hr9
  refine lv_i2l hx hb dL_command_7 rfl ?_
  refine k_lastS hx hb hK 3 rfl hP hD hS dL_command_8 (fun H locs hP hD hS => ?_)
  refine lv_goto (tgt := 15) hx hb dL_command_9 (by decide) ?_
  refine lv_iconst (v := nI 0) hx hb dL_command_15 (by decide +kernel) ?_
  subst hQ9
  subst hA9
  exact kRetH_i () hx hb hr hlocks hP hS dL_command_16 rfl

abbrev rxL_command : Room := { frames := 9, cells := 1, slots := 6, locals := 153 }
set_option maxHeartbeats 4000000 in
set_option maxRecDepth 100000 in
/-- command_bad -/
theorem c_L_command_bad (l : Launch) (hst : l.stackTraces = false) (D : va_G) (cI cZ cO cJ : ClassId) (x a t b : Nat → Nat) (ck : Nat) (Ho T E Dm F S : Nat → Int32) (C : Nat → Nat → Int32) (la : Nat) (T1 E1 D1 F1 S1 : Nat → Int32) (C1 : Nat → Nat → Int32) (la1 : Nat) (Lo Se : Nat → Int32) (Ef : Nat → Nat → Int32) (gp gi am li : Int32) (dl : Nat) (v : Int32) (o : Nat) (g : Nat → Int64) (sz : Nat) (h : ¬ inR v (nI 0) (nI 7)) : kMH l yL_command wsL_command rxL_command D (kT cI cZ cO cJ) [.ref (x 0), .int v, .ref o] (wC cI cZ cO x a t b ck Ho T E Dm F S C la T1 E1 D1 F1 S1 C1 la1 Lo Se Ef gp gi am li dl ++ [(o, .inl (cJ, 1, .inr (.inl g)))]) (fun _ : Unit => wC cI cZ cO x a t b ck Ho T E Dm F S C la T1 E1 D1 F1 S1 C1 la1 Lo Se Ef gp gi am li dl ++ [(o, .inl (cJ, 1, .inr (.inl g)))]) 1 6 sz (nI 1) := by
  refine kEnterH (cc := cL_command) (maxL := 4) (ret := some .int) (hh := [(0, 9, 12, 13)]) (by decide +kernel) rfl (Nat.le_of_ble_eq_true rfl) ?_
  intro p e s m below meth c args hx hb hr hml hts hown hlocks htab hK hN A hA9 Q hQ9 hP hD hsz hS hA hX hC ls hl
  have hl : lv_has ls 4 [(0, .ref (x 0)), (1, .int v), (2, .ref o)] := hl
  obtain ⟨H, hH9⟩ : ∃ H, H = s.heap := ⟨_, rfl⟩
  rw [← hH9] at hP ⊢
  have hS : va_S A s.heap H [] := by rw [hH9]; exact va_S.rf
  refine lv_aload_n hx hb dL_command_0 rfl (lv_at hl 2 rfl) ?_
  refine lv_iconst (v := nI 0) hx hb dL_command_1 (by decide +kernel) ?_
  refine lv_aload_n hx hb dL_command_2 rfl (lv_at hl 0 rfl) ?_
  refine lv_iload_n hx hb dL_command_3 rfl (lv_at hl 1 rfl) ?_
  refine kCallXP_i hP hD hS hA (vx_runV (As := [.int v]) (rest := [.int (nI 0), .ref o]) ⟨hx, hb, hml, hown, hts⟩ (c_X2_command_bad l hst D cI cZ cO cJ x a t b ck Ho T E Dm F S C la T1 E1 D1 F1 S1 C1 la1 Lo Se Ef gp gi am li dl v H.size h) (cwV (rm := rxX2_command) 1 hts gL_command_X2_command rfl rfl rfl (by decide +kernel) ⟨Nat.le_of_ble_eq_true rfl, Nat.le_of_ble_eq_true rfl⟩) (kPreVXW hK hN hX (pfP hP) (pfD hD) hS (kfree (pfD hD) hS hA) (va_recv hK (pfP hP) (ci := 2) (q0 := 0) rfl rfl)) rfl rfl hl.1 rfl (lv_room (Nat.le_of_ble_eq_true rfl)) dL_command_4 ⟨Nat.le_of_ble_eq_true rfl, Nat.le_of_ble_eq_true rfl⟩) (fun ce q9 H locs hP hD hS hce hcv hcl => ?_)
  refine vx_catch (name := "java/lang/IllegalArgumentException") hown [] ⟨0, 9, 12, 13⟩ [] (by rw [htab]; rfl) (fun z h => absurd h (List.not_mem_nil)) rfl (by decide) (hts (.classLink RL 13 "java/lang/IllegalArgumentException") (by decide +kernel)) (kXw.use xB_iae_ok hX.2.2.2.2.2.2.1 _ (by decide +kernel)) hce hcv hcl ?_
  refine lv_astore_n (lv' := [(3, .ref q9), (0, .ref (x 0)), (1, .int v), (2, .ref o)]) hx hb dL_command_12 rfl hl (by decide) rfl (fun ls hl => ?_)
  refine lv_iconst (v := nI 1) hx hb dL_command_13 (by decide +kernel) ?_
  subst hQ9
  subst hA9
  exact kRetH_i () hx hb hr hlocks hP hS dL_command_14 rfl

abbrev rmL_speed : Room := { frames := 3, cells := 0, slots := 0, locals := 63 }
set_option maxHeartbeats 4000000 in
set_option maxRecDepth 100000 in
/-- speed -/
theorem c_L_speed (l : Launch) (D : va_G) (cI cZ cO cJ : ClassId) (x a t b : Nat → Nat) (ck : Nat) (Ho T E Dm F S : Nat → Int32) (C : Nat → Nat → Int32) (la : Nat) (T1 E1 D1 F1 S1 : Nat → Int32) (C1 : Nat → Nat → Int32) (la1 : Nat) (Lo Se : Nat → Int32) (Ef : Nat → Nat → Int32) (gp gi am li : Int32) (dl : Nat) (f : Nat) (o : Nat) (g : Nat → Int64) (sz : Nat) (hf : f < 8) : kMH l yL_speed wsL_speed rmL_speed D (kT cI cZ cO cJ) [.ref (x 0), .int (nI f), .ref o] (wC cI cZ cO x a t b ck Ho T E Dm F S C la T1 E1 D1 F1 S1 C1 la1 Lo Se Ef gp gi am li dl ++ [(o, .inl (cJ, 1, .inr (.inl g)))]) (fun _ : Unit => wC cI cZ cO x a t b ck Ho T E Dm F S C la T1 E1 D1 F1 S1 C1 la1 Lo Se Ef gp gi am li dl ++ [(o, .inl (cJ, 1, .inr (.inl (vp_updL g 0 ((S f)).toInt64))))]) 0 0 sz (nI 0) := by
  refine kEnterH (cc := cL_speed) (maxL := 4) (ret := some .int) (hh := [(0, 9, 12, 13)]) (by decide +kernel) rfl (Nat.le_of_ble_eq_true rfl) ?_
  intro p e s m below meth c args hx hb hr hml hts hown hlocks htab hK hN A hA9 Q hQ9 hP hD hsz hS hA hX hC ls hl
  have hl : lv_has ls 4 [(0, .ref (x 0)), (1, .int (nI f)), (2, .ref o)] := hl
  obtain ⟨H, hH9⟩ : ∃ H, H = s.heap := ⟨_, rfl⟩
  rw [← hH9] at hP ⊢
  have hS : va_S A s.heap H [] := by rw [hH9]; exact va_S.rf
  refine lv_aload_n hx hb dL_speed_0 rfl (lv_at hl 2 rfl) ?_
  refine lv_iconst (v := nI 0) hx hb dL_speed_1 (by decide +kernel) ?_
  refine lv_aload_n hx hb dL_speed_2 rfl (lv_at hl 0 rfl) ?_
  refine lv_iload_n hx hb dL_speed_3 rfl (lv_at hl 1 rfl) ?_
  refine kCallP_i (W1 := fun _ : Unit => wC cI cZ cO x a t b ck Ho T E Dm F S C la T1 E1 D1 F1 S1 C1 la1 Lo Se Ef gp gi am li dl) (fun _ _ h => h) hP hD hS hA (fun _ => rfl) (va_runV (As := [.int (nI f)]) (rest := [.int (nI 0), .ref o]) ⟨hx, hb, hml, hown, hts⟩ (c_X2_speed l D cI cZ cO cJ x a t b ck Ho T E Dm F S C la T1 E1 D1 F1 S1 C1 la1 Lo Se Ef gp gi am li dl f H.size hf) (cwV (rm := rmX2_speed) 1 hts gL_speed_X2_speed rfl rfl rfl (by decide +kernel) ⟨Nat.le_of_ble_eq_true rfl, Nat.le_of_ble_eq_true rfl⟩) (kPreVW hK hN (pfP hP) (pfD hD) (va_recv hK (pfP hP) (ci := 2) (q0 := 0) rfl rfl)) rfl rfl hl.1 rfl (lv_room (Nat.le_of_ble_eq_true rfl)) dL_speed_4 ⟨Nat.zero_le _, Nat.zero_le _⟩) (fun r9 u H locs hr9 hP hD hS => ?_)
  subst hr9
  refine lv_i2l hx hb dL_speed_7 rfl ?_
  refine k_lastS hx hb hK 3 rfl hP hD hS dL_speed_8 (fun H locs hP hD hS => ?_)
  refine lv_goto (tgt := 15) hx hb dL_speed_9 (by decide) ?_
  refine lv_iconst (v := nI 0) hx hb dL_speed_15 (by decide +kernel) ?_
  subst hQ9
  subst hA9
  exact kRetH_i () hx hb hr hlocks hP hS dL_speed_16 rfl

abbrev rxL_speed : Room := { frames := 9, cells := 1, slots := 6, locals := 153 }
set_option maxHeartbeats 4000000 in
set_option maxRecDepth 100000 in
/-- speed_bad -/
theorem c_L_speed_bad (l : Launch) (hst : l.stackTraces = false) (D : va_G) (cI cZ cO cJ : ClassId) (x a t b : Nat → Nat) (ck : Nat) (Ho T E Dm F S : Nat → Int32) (C : Nat → Nat → Int32) (la : Nat) (T1 E1 D1 F1 S1 : Nat → Int32) (C1 : Nat → Nat → Int32) (la1 : Nat) (Lo Se : Nat → Int32) (Ef : Nat → Nat → Int32) (gp gi am li : Int32) (dl : Nat) (v : Int32) (o : Nat) (g : Nat → Int64) (sz : Nat) (h : ¬ inR v (nI 0) (nI 7)) : kMH l yL_speed wsL_speed rxL_speed D (kT cI cZ cO cJ) [.ref (x 0), .int v, .ref o] (wC cI cZ cO x a t b ck Ho T E Dm F S C la T1 E1 D1 F1 S1 C1 la1 Lo Se Ef gp gi am li dl ++ [(o, .inl (cJ, 1, .inr (.inl g)))]) (fun _ : Unit => wC cI cZ cO x a t b ck Ho T E Dm F S C la T1 E1 D1 F1 S1 C1 la1 Lo Se Ef gp gi am li dl ++ [(o, .inl (cJ, 1, .inr (.inl g)))]) 1 6 sz (nI 1) := by
  refine kEnterH (cc := cL_speed) (maxL := 4) (ret := some .int) (hh := [(0, 9, 12, 13)]) (by decide +kernel) rfl (Nat.le_of_ble_eq_true rfl) ?_
  intro p e s m below meth c args hx hb hr hml hts hown hlocks htab hK hN A hA9 Q hQ9 hP hD hsz hS hA hX hC ls hl
  have hl : lv_has ls 4 [(0, .ref (x 0)), (1, .int v), (2, .ref o)] := hl
  obtain ⟨H, hH9⟩ : ∃ H, H = s.heap := ⟨_, rfl⟩
  rw [← hH9] at hP ⊢
  have hS : va_S A s.heap H [] := by rw [hH9]; exact va_S.rf
  refine lv_aload_n hx hb dL_speed_0 rfl (lv_at hl 2 rfl) ?_
  refine lv_iconst (v := nI 0) hx hb dL_speed_1 (by decide +kernel) ?_
  refine lv_aload_n hx hb dL_speed_2 rfl (lv_at hl 0 rfl) ?_
  refine lv_iload_n hx hb dL_speed_3 rfl (lv_at hl 1 rfl) ?_
  refine kCallXP_i hP hD hS hA (vx_runV (As := [.int v]) (rest := [.int (nI 0), .ref o]) ⟨hx, hb, hml, hown, hts⟩ (c_X2_speed_bad l hst D cI cZ cO cJ x a t b ck Ho T E Dm F S C la T1 E1 D1 F1 S1 C1 la1 Lo Se Ef gp gi am li dl v H.size h) (cwV (rm := rxX2_speed) 1 hts gL_speed_X2_speed rfl rfl rfl (by decide +kernel) ⟨Nat.le_of_ble_eq_true rfl, Nat.le_of_ble_eq_true rfl⟩) (kPreVXW hK hN hX (pfP hP) (pfD hD) hS (kfree (pfD hD) hS hA) (va_recv hK (pfP hP) (ci := 2) (q0 := 0) rfl rfl)) rfl rfl hl.1 rfl (lv_room (Nat.le_of_ble_eq_true rfl)) dL_speed_4 ⟨Nat.le_of_ble_eq_true rfl, Nat.le_of_ble_eq_true rfl⟩) (fun ce q9 H locs hP hD hS hce hcv hcl => ?_)
  refine vx_catch (name := "java/lang/IllegalArgumentException") hown [] ⟨0, 9, 12, 13⟩ [] (by rw [htab]; rfl) (fun z h => absurd h (List.not_mem_nil)) rfl (by decide) (hts (.classLink RL 13 "java/lang/IllegalArgumentException") (by decide +kernel)) (kXw.use xB_iae_ok hX.2.2.2.2.2.2.1 _ (by decide +kernel)) hce hcv hcl ?_
  refine lv_astore_n (lv' := [(3, .ref q9), (0, .ref (x 0)), (1, .int v), (2, .ref o)]) hx hb dL_speed_12 rfl hl (by decide) rfl (fun ls hl => ?_)
  refine lv_iconst (v := nI 1) hx hb dL_speed_13 (by decide +kernel) ?_
  subst hQ9
  subst hA9
  exact kRetH_i () hx hb hr hlocks hP hS dL_speed_14 rfl

abbrev rmL_pass : Room := { frames := 5, cells := 0, slots := 0, locals := 115 }
set_option maxHeartbeats 4000000 in
set_option maxRecDepth 100000 in
/-- pass -/
theorem c_L_pass (l : Launch) (D : va_G) (cI cZ cO cJ : ClassId) (x a t b : Nat → Nat) (ck : Nat) (Ho : Nat → Int32) (σ : HS) (T1 E1 D1 F1 S1 : Nat → Int32) (C1 : Nat → Nat → Int32) (la1 : Nat) (Lo Se : Nat → Int32) (Ef : Nat → Nat → Int32) (gp gi am li : Int32) (dl : Nat) (nm : Nat) (o : Nat) (g : Nat → Int64) (sz : Nat) (h1 : 0 < nm) (h2 : nm ≤ 300) (h8 : sL σ < 9) (h9 : dl < 9) (h10 : ck + nm ≤ 100000) : kMH l yL_pass wsL_pass rmL_pass D (kT cI cZ cO cJ) [.ref (x 0), .int (nI nm), .ref o] (wC cI cZ cO x a t b ck Ho (sT σ) (sE σ) (sD σ) (sF σ) (sS σ) (sC σ) (sL σ) T1 E1 D1 F1 S1 C1 la1 Lo Se Ef gp gi am li dl ++ [(o, .inl (cJ, 1, .inr (.inl g)))]) (fun _ : Unit => wC cI cZ cO x a t b (ck + nm) (pHo li (fun k => sT (hRun gp gi am Lo Se Ef dl k σ)) Ho nm) (sT (hRun gp gi am Lo Se Ef dl nm σ)) (sE (hRun gp gi am Lo Se Ef dl nm σ)) (sD (hRun gp gi am Lo Se Ef dl nm σ)) (sF (hRun gp gi am Lo Se Ef dl nm σ)) (sS (hRun gp gi am Lo Se Ef dl nm σ)) (sC (hRun gp gi am Lo Se Ef dl nm σ)) (sL (hRun gp gi am Lo Se Ef dl nm σ)) T1 E1 D1 F1 S1 C1 la1 Lo Se Ef gp gi am li dl ++ [(o, .inl (cJ, 1, .inr (.inl (vp_updL g 0 ((pSum li (fun k => sT (hRun gp gi am Lo Se Ef dl k σ)) nm)).toInt64))))]) 0 0 sz (nI 0) := by
  refine kEnterH (cc := cL_pass) (maxL := 4) (ret := some .int) (hh := [(0, 9, 12, 13), (0, 9, 15, 36)]) (by decide +kernel) rfl (Nat.le_of_ble_eq_true rfl) ?_
  intro p e s m below meth c args hx hb hr hml hts hown hlocks htab hK hN A hA9 Q hQ9 hP hD hsz hS hA hX hC ls hl
  have hl : lv_has ls 4 [(0, .ref (x 0)), (1, .int (nI nm)), (2, .ref o)] := hl
  obtain ⟨H, hH9⟩ : ∃ H, H = s.heap := ⟨_, rfl⟩
  rw [← hH9] at hP ⊢
  have hS : va_S A s.heap H [] := by rw [hH9]; exact va_S.rf
  refine lv_aload_n hx hb dL_pass_0 rfl (lv_at hl 2 rfl) ?_
  refine lv_iconst (v := nI 0) hx hb dL_pass_1 (by decide +kernel) ?_
  refine lv_aload_n hx hb dL_pass_2 rfl (lv_at hl 0 rfl) ?_
  refine lv_iload_n hx hb dL_pass_3 rfl (lv_at hl 1 rfl) ?_
  refine kCallP_i (W1 := fun _ : Unit => wC cI cZ cO x a t b (ck + nm) (pHo li (fun k => sT (hRun gp gi am Lo Se Ef dl k σ)) Ho nm) (sT (hRun gp gi am Lo Se Ef dl nm σ)) (sE (hRun gp gi am Lo Se Ef dl nm σ)) (sD (hRun gp gi am Lo Se Ef dl nm σ)) (sF (hRun gp gi am Lo Se Ef dl nm σ)) (sS (hRun gp gi am Lo Se Ef dl nm σ)) (sC (hRun gp gi am Lo Se Ef dl nm σ)) (sL (hRun gp gi am Lo Se Ef dl nm σ)) T1 E1 D1 F1 S1 C1 la1 Lo Se Ef gp gi am li dl) (fun _ _ h => h) hP hD hS hA (fun _ => rfl) (va_runV (As := [.int (nI nm)]) (rest := [.int (nI 0), .ref o]) ⟨hx, hb, hml, hown, hts⟩ (c_X2_pass l D cI cZ cO cJ x a t b ck Ho σ T1 E1 D1 F1 S1 C1 la1 Lo Se Ef gp gi am li dl nm H.size h1 h2 h8 h9 h10) (cwV (rm := rmX2_pass) 1 hts gL_pass_X2_pass rfl rfl rfl (by decide +kernel) ⟨Nat.le_of_ble_eq_true rfl, Nat.le_of_ble_eq_true rfl⟩) (kPreVW hK hN (pfP hP) (pfD hD) (va_recv hK (pfP hP) (ci := 2) (q0 := 0) rfl rfl)) rfl rfl hl.1 rfl (lv_room (Nat.le_of_ble_eq_true rfl)) dL_pass_4 ⟨Nat.zero_le _, Nat.zero_le _⟩) (fun r9 u H locs hr9 hP hD hS => ?_)
  subst hr9
  refine lv_i2l hx hb dL_pass_7 rfl ?_
  refine k_lastS hx hb hK 3 rfl hP hD hS dL_pass_8 (fun H locs hP hD hS => ?_)
  refine lv_goto (tgt := 18) hx hb dL_pass_9 (by decide) ?_
  refine lv_iconst (v := nI 0) hx hb dL_pass_18 (by decide +kernel) ?_
  subst hQ9
  subst hA9
  exact kRetH_i () hx hb hr hlocks hP hS dL_pass_19 rfl

abbrev rxL_pass : Room := { frames := 8, cells := 1, slots := 6, locals := 135 }
set_option maxHeartbeats 4000000 in
set_option maxRecDepth 100000 in
/-- pass_bad -/
theorem c_L_pass_bad (l : Launch) (hst : l.stackTraces = false) (D : va_G) (cI cZ cO cJ : ClassId) (x a t b : Nat → Nat) (ck : Nat) (Ho T E Dm F S : Nat → Int32) (C : Nat → Nat → Int32) (la : Nat) (T1 E1 D1 F1 S1 : Nat → Int32) (C1 : Nat → Nat → Int32) (la1 : Nat) (Lo Se : Nat → Int32) (Ef : Nat → Nat → Int32) (gp gi am li : Int32) (dl : Nat) (v : Int32) (o : Nat) (g : Nat → Int64) (sz : Nat) (h : ¬ inR v (nI 1) (nI 300)) : kMH l yL_pass wsL_pass rxL_pass D (kT cI cZ cO cJ) [.ref (x 0), .int v, .ref o] (wC cI cZ cO x a t b ck Ho T E Dm F S C la T1 E1 D1 F1 S1 C1 la1 Lo Se Ef gp gi am li dl ++ [(o, .inl (cJ, 1, .inr (.inl g)))]) (fun _ : Unit => wC cI cZ cO x a t b ck Ho T E Dm F S C la T1 E1 D1 F1 S1 C1 la1 Lo Se Ef gp gi am li dl ++ [(o, .inl (cJ, 1, .inr (.inl g)))]) 1 6 sz (nI 1) := by
  refine kEnterH (cc := cL_pass) (maxL := 4) (ret := some .int) (hh := [(0, 9, 12, 13), (0, 9, 15, 36)]) (by decide +kernel) rfl (Nat.le_of_ble_eq_true rfl) ?_
  intro p e s m below meth c args hx hb hr hml hts hown hlocks htab hK hN A hA9 Q hQ9 hP hD hsz hS hA hX hC ls hl
  have hl : lv_has ls 4 [(0, .ref (x 0)), (1, .int v), (2, .ref o)] := hl
  obtain ⟨H, hH9⟩ : ∃ H, H = s.heap := ⟨_, rfl⟩
  rw [← hH9] at hP ⊢
  have hS : va_S A s.heap H [] := by rw [hH9]; exact va_S.rf
  refine lv_aload_n hx hb dL_pass_0 rfl (lv_at hl 2 rfl) ?_
  refine lv_iconst (v := nI 0) hx hb dL_pass_1 (by decide +kernel) ?_
  refine lv_aload_n hx hb dL_pass_2 rfl (lv_at hl 0 rfl) ?_
  refine lv_iload_n hx hb dL_pass_3 rfl (lv_at hl 1 rfl) ?_
  refine kCallXP_i hP hD hS hA (vx_runV (As := [.int v]) (rest := [.int (nI 0), .ref o]) ⟨hx, hb, hml, hown, hts⟩ (c_X2_pass_bad l hst D cI cZ cO cJ x a t b ck Ho T E Dm F S C la T1 E1 D1 F1 S1 C1 la1 Lo Se Ef gp gi am li dl v H.size h) (cwV (rm := rxX2_pass) 1 hts gL_pass_X2_pass rfl rfl rfl (by decide +kernel) ⟨Nat.le_of_ble_eq_true rfl, Nat.le_of_ble_eq_true rfl⟩) (kPreVXW hK hN hX (pfP hP) (pfD hD) hS (kfree (pfD hD) hS hA) (va_recv hK (pfP hP) (ci := 2) (q0 := 0) rfl rfl)) rfl rfl hl.1 rfl (lv_room (Nat.le_of_ble_eq_true rfl)) dL_pass_4 ⟨Nat.le_of_ble_eq_true rfl, Nat.le_of_ble_eq_true rfl⟩) (fun ce q9 H locs hP hD hS hce hcv hcl => ?_)
  refine vx_catch (name := "java/lang/IllegalArgumentException") hown [] ⟨0, 9, 12, 13⟩ [⟨0, 9, 15, 36⟩] (by rw [htab]; rfl) (fun z h => absurd h (List.not_mem_nil)) rfl (by decide) (hts (.classLink RL 13 "java/lang/IllegalArgumentException") (by decide +kernel)) (kXw.use xB_iae_ok hX.2.2.2.2.2.2.1 _ (by decide +kernel)) hce hcv hcl ?_
  refine lv_astore_n (lv' := [(3, .ref q9), (0, .ref (x 0)), (1, .int v), (2, .ref o)]) hx hb dL_pass_12 rfl hl (by decide) rfl (fun ls hl => ?_)
  refine lv_iconst (v := nI 1) hx hb dL_pass_13 (by decide +kernel) ?_
  subst hQ9
  subst hA9
  exact kRetH_i () hx hb hr hlocks hP hS dL_pass_14 rfl

set_option maxHeartbeats 4000000 in
set_option maxRecDepth 100000 in
/-- pass_two -/
theorem c_L_pass_two (l : Launch) (hst : l.stackTraces = false) (D : va_G) (cI cZ cO cJ : ClassId) (x a t b : Nat → Nat) (ck : Nat) (Ho T E Dm F S : Nat → Int32) (C : Nat → Nat → Int32) (la : Nat) (T1 E1 D1 F1 S1 : Nat → Int32) (C1 : Nat → Nat → Int32) (la1 : Nat) (Lo Se : Nat → Int32) (Ef : Nat → Nat → Int32) (gp gi am li : Int32) (dl : Nat) (nm : Nat) (o : Nat) (g : Nat → Int64) (sz : Nat) (h1 : 0 < nm) (h2 : nm ≤ 300) (hc : 100000 < ck + nm) (hk : ck ≤ 100000) : kMH l yL_pass wsL_pass rxL_pass D (kT cI cZ cO cJ) [.ref (x 0), .int (nI nm), .ref o] (wC cI cZ cO x a t b ck Ho T E Dm F S C la T1 E1 D1 F1 S1 C1 la1 Lo Se Ef gp gi am li dl ++ [(o, .inl (cJ, 1, .inr (.inl g)))]) (fun _ : Unit => wC cI cZ cO x a t b ck Ho T E Dm F S C la T1 E1 D1 F1 S1 C1 la1 Lo Se Ef gp gi am li dl ++ [(o, .inl (cJ, 1, .inr (.inl g)))]) 1 6 sz (nI 2) := by
  refine kEnterH (cc := cL_pass) (maxL := 4) (ret := some .int) (hh := [(0, 9, 12, 13), (0, 9, 15, 36)]) (by decide +kernel) rfl (Nat.le_of_ble_eq_true rfl) ?_
  intro p e s m below meth c args hx hb hr hml hts hown hlocks htab hK hN A hA9 Q hQ9 hP hD hsz hS hA hX hC ls hl
  have hl : lv_has ls 4 [(0, .ref (x 0)), (1, .int (nI nm)), (2, .ref o)] := hl
  obtain ⟨H, hH9⟩ : ∃ H, H = s.heap := ⟨_, rfl⟩
  rw [← hH9] at hP ⊢
  have hS : va_S A s.heap H [] := by rw [hH9]; exact va_S.rf
  refine lv_aload_n hx hb dL_pass_0 rfl (lv_at hl 2 rfl) ?_
  refine lv_iconst (v := nI 0) hx hb dL_pass_1 (by decide +kernel) ?_
  refine lv_aload_n hx hb dL_pass_2 rfl (lv_at hl 0 rfl) ?_
  refine lv_iload_n hx hb dL_pass_3 rfl (lv_at hl 1 rfl) ?_
  refine kCallXP_i hP hD hS hA (vx_runV (As := [.int (nI nm)]) (rest := [.int (nI 0), .ref o]) ⟨hx, hb, hml, hown, hts⟩ (c_X2_pass_two l hst D cI cZ cO cJ x a t b ck Ho T E Dm F S C la T1 E1 D1 F1 S1 C1 la1 Lo Se Ef gp gi am li dl nm H.size h1 h2 hc hk) (cwV (rm := rxX2_pass) 1 hts gL_pass_X2_pass rfl rfl rfl (by decide +kernel) ⟨Nat.le_of_ble_eq_true rfl, Nat.le_of_ble_eq_true rfl⟩) (kPreVXW hK hN hX (pfP hP) (pfD hD) hS (kfree (pfD hD) hS hA) (va_recv hK (pfP hP) (ci := 2) (q0 := 0) rfl rfl)) rfl rfl hl.1 rfl (lv_room (Nat.le_of_ble_eq_true rfl)) dL_pass_4 ⟨Nat.le_of_ble_eq_true rfl, Nat.le_of_ble_eq_true rfl⟩) (fun ce q9 H locs hP hD hS hce hcv hcl => ?_)
  refine vx_catch (name := "java/lang/IllegalStateException") hown [⟨0, 9, 12, 13⟩] ⟨0, 9, 15, 36⟩ [] (by rw [htab]; rfl) (fun z h => by rw [List.mem_singleton.mp h]; exact Or.inr ⟨by decide, "java/lang/IllegalArgumentException", hts (.classLink RL 13 "java/lang/IllegalArgumentException") (by decide +kernel), hC⟩) rfl (by decide) (hts (.classLink RL 36 "java/lang/IllegalStateException") (by decide +kernel)) (kXw.use xB_ise_ok hX.2.2.2.2.2.2.2 _ (by decide +kernel)) hce hcv hcl ?_
  refine lv_astore_n (lv' := [(3, .ref q9), (0, .ref (x 0)), (1, .int (nI nm)), (2, .ref o)]) hx hb dL_pass_15 rfl hl (by decide) rfl (fun ls hl => ?_)
  refine lv_iconst (v := nI 2) hx hb dL_pass_16 (by decide +kernel) ?_
  subst hQ9
  subst hA9
  exact kRetH_i () hx hb hr hlocks hP hS dL_pass_17 rfl

abbrev rmL_temperature : Room := { frames := 3, cells := 0, slots := 0, locals := 63 }
set_option maxHeartbeats 4000000 in
set_option maxRecDepth 100000 in
/-- temperature -/
theorem c_L_temperature (l : Launch) (D : va_G) (cI cZ cO cJ : ClassId) (x a t b : Nat → Nat) (ck : Nat) (Ho T E Dm F S : Nat → Int32) (C : Nat → Nat → Int32) (la : Nat) (T1 E1 D1 F1 S1 : Nat → Int32) (C1 : Nat → Nat → Int32) (la1 : Nat) (Lo Se : Nat → Int32) (Ef : Nat → Nat → Int32) (gp gi am li : Int32) (dl : Nat) (z : Nat) (o : Nat) (g : Nat → Int64) (sz : Nat) (hz : z < 6) : kMH l yL_temperature wsL_temperature rmL_temperature D (kT cI cZ cO cJ) [.ref (x 0), .int (nI z), .ref o] (wC cI cZ cO x a t b ck Ho T E Dm F S C la T1 E1 D1 F1 S1 C1 la1 Lo Se Ef gp gi am li dl ++ [(o, .inl (cJ, 1, .inr (.inl g)))]) (fun _ : Unit => wC cI cZ cO x a t b ck Ho T E Dm F S C la T1 E1 D1 F1 S1 C1 la1 Lo Se Ef gp gi am li dl ++ [(o, .inl (cJ, 1, .inr (.inl (vp_updL g 0 ((T z)).toInt64))))]) 0 0 sz (nI 0) := by
  refine kEnterH (cc := cL_temperature) (maxL := 4) (ret := some .int) (hh := [(0, 9, 12, 13)]) (by decide +kernel) rfl (Nat.le_of_ble_eq_true rfl) ?_
  intro p e s m below meth c args hx hb hr hml hts hown hlocks htab hK hN A hA9 Q hQ9 hP hD hsz hS hA hX hC ls hl
  have hl : lv_has ls 4 [(0, .ref (x 0)), (1, .int (nI z)), (2, .ref o)] := hl
  obtain ⟨H, hH9⟩ : ∃ H, H = s.heap := ⟨_, rfl⟩
  rw [← hH9] at hP ⊢
  have hS : va_S A s.heap H [] := by rw [hH9]; exact va_S.rf
  refine lv_aload_n hx hb dL_temperature_0 rfl (lv_at hl 2 rfl) ?_
  refine lv_iconst (v := nI 0) hx hb dL_temperature_1 (by decide +kernel) ?_
  refine lv_aload_n hx hb dL_temperature_2 rfl (lv_at hl 0 rfl) ?_
  refine lv_iload_n hx hb dL_temperature_3 rfl (lv_at hl 1 rfl) ?_
  refine kCallP_i (W1 := fun _ : Unit => wC cI cZ cO x a t b ck Ho T E Dm F S C la T1 E1 D1 F1 S1 C1 la1 Lo Se Ef gp gi am li dl) (fun _ _ h => h) hP hD hS hA (fun _ => rfl) (va_runV (As := [.int (nI z)]) (rest := [.int (nI 0), .ref o]) ⟨hx, hb, hml, hown, hts⟩ (c_X2_temperature l D cI cZ cO cJ x a t b ck Ho T E Dm F S C la T1 E1 D1 F1 S1 C1 la1 Lo Se Ef gp gi am li dl z H.size hz) (cwV (rm := rmX2_temperature) 1 hts gL_temperature_X2_temperature rfl rfl rfl (by decide +kernel) ⟨Nat.le_of_ble_eq_true rfl, Nat.le_of_ble_eq_true rfl⟩) (kPreVW hK hN (pfP hP) (pfD hD) (va_recv hK (pfP hP) (ci := 2) (q0 := 0) rfl rfl)) rfl rfl hl.1 rfl (lv_room (Nat.le_of_ble_eq_true rfl)) dL_temperature_4 ⟨Nat.zero_le _, Nat.zero_le _⟩) (fun r9 u H locs hr9 hP hD hS => ?_)
  subst hr9
  refine lv_i2l hx hb dL_temperature_7 rfl ?_
  refine k_lastS hx hb hK 3 rfl hP hD hS dL_temperature_8 (fun H locs hP hD hS => ?_)
  refine lv_goto (tgt := 15) hx hb dL_temperature_9 (by decide) ?_
  refine lv_iconst (v := nI 0) hx hb dL_temperature_15 (by decide +kernel) ?_
  subst hQ9
  subst hA9
  exact kRetH_i () hx hb hr hlocks hP hS dL_temperature_16 rfl

abbrev rxL_temperature : Room := { frames := 9, cells := 1, slots := 6, locals := 153 }
set_option maxHeartbeats 4000000 in
set_option maxRecDepth 100000 in
/-- temperature_bad -/
theorem c_L_temperature_bad (l : Launch) (hst : l.stackTraces = false) (D : va_G) (cI cZ cO cJ : ClassId) (x a t b : Nat → Nat) (ck : Nat) (Ho T E Dm F S : Nat → Int32) (C : Nat → Nat → Int32) (la : Nat) (T1 E1 D1 F1 S1 : Nat → Int32) (C1 : Nat → Nat → Int32) (la1 : Nat) (Lo Se : Nat → Int32) (Ef : Nat → Nat → Int32) (gp gi am li : Int32) (dl : Nat) (v : Int32) (o : Nat) (g : Nat → Int64) (sz : Nat) (h : ¬ inR v (nI 0) (nI 5)) : kMH l yL_temperature wsL_temperature rxL_temperature D (kT cI cZ cO cJ) [.ref (x 0), .int v, .ref o] (wC cI cZ cO x a t b ck Ho T E Dm F S C la T1 E1 D1 F1 S1 C1 la1 Lo Se Ef gp gi am li dl ++ [(o, .inl (cJ, 1, .inr (.inl g)))]) (fun _ : Unit => wC cI cZ cO x a t b ck Ho T E Dm F S C la T1 E1 D1 F1 S1 C1 la1 Lo Se Ef gp gi am li dl ++ [(o, .inl (cJ, 1, .inr (.inl g)))]) 1 6 sz (nI 1) := by
  refine kEnterH (cc := cL_temperature) (maxL := 4) (ret := some .int) (hh := [(0, 9, 12, 13)]) (by decide +kernel) rfl (Nat.le_of_ble_eq_true rfl) ?_
  intro p e s m below meth c args hx hb hr hml hts hown hlocks htab hK hN A hA9 Q hQ9 hP hD hsz hS hA hX hC ls hl
  have hl : lv_has ls 4 [(0, .ref (x 0)), (1, .int v), (2, .ref o)] := hl
  obtain ⟨H, hH9⟩ : ∃ H, H = s.heap := ⟨_, rfl⟩
  rw [← hH9] at hP ⊢
  have hS : va_S A s.heap H [] := by rw [hH9]; exact va_S.rf
  refine lv_aload_n hx hb dL_temperature_0 rfl (lv_at hl 2 rfl) ?_
  refine lv_iconst (v := nI 0) hx hb dL_temperature_1 (by decide +kernel) ?_
  refine lv_aload_n hx hb dL_temperature_2 rfl (lv_at hl 0 rfl) ?_
  refine lv_iload_n hx hb dL_temperature_3 rfl (lv_at hl 1 rfl) ?_
  refine kCallXP_i hP hD hS hA (vx_runV (As := [.int v]) (rest := [.int (nI 0), .ref o]) ⟨hx, hb, hml, hown, hts⟩ (c_X2_temperature_bad l hst D cI cZ cO cJ x a t b ck Ho T E Dm F S C la T1 E1 D1 F1 S1 C1 la1 Lo Se Ef gp gi am li dl v H.size h) (cwV (rm := rxX2_temperature) 1 hts gL_temperature_X2_temperature rfl rfl rfl (by decide +kernel) ⟨Nat.le_of_ble_eq_true rfl, Nat.le_of_ble_eq_true rfl⟩) (kPreVXW hK hN hX (pfP hP) (pfD hD) hS (kfree (pfD hD) hS hA) (va_recv hK (pfP hP) (ci := 2) (q0 := 0) rfl rfl)) rfl rfl hl.1 rfl (lv_room (Nat.le_of_ble_eq_true rfl)) dL_temperature_4 ⟨Nat.le_of_ble_eq_true rfl, Nat.le_of_ble_eq_true rfl⟩) (fun ce q9 H locs hP hD hS hce hcv hcl => ?_)
  refine vx_catch (name := "java/lang/IllegalArgumentException") hown [] ⟨0, 9, 12, 13⟩ [] (by rw [htab]; rfl) (fun z h => absurd h (List.not_mem_nil)) rfl (by decide) (hts (.classLink RL 13 "java/lang/IllegalArgumentException") (by decide +kernel)) (kXw.use xB_iae_ok hX.2.2.2.2.2.2.1 _ (by decide +kernel)) hce hcv hcl ?_
  refine lv_astore_n (lv' := [(3, .ref q9), (0, .ref (x 0)), (1, .int v), (2, .ref o)]) hx hb dL_temperature_12 rfl hl (by decide) rfl (fun ls hl => ?_)
  refine lv_iconst (v := nI 1) hx hb dL_temperature_13 (by decide +kernel) ?_
  subst hQ9
  subst hA9
  exact kRetH_i () hx hb hr hlocks hP hS dL_temperature_14 rfl

abbrev rmL_demand : Room := { frames := 3, cells := 0, slots := 0, locals := 63 }
set_option maxHeartbeats 4000000 in
set_option maxRecDepth 100000 in
/-- demand -/
theorem c_L_demand (l : Launch) (D : va_G) (cI cZ cO cJ : ClassId) (x a t b : Nat → Nat) (ck : Nat) (Ho T E Dm F S : Nat → Int32) (C : Nat → Nat → Int32) (la : Nat) (T1 E1 D1 F1 S1 : Nat → Int32) (C1 : Nat → Nat → Int32) (la1 : Nat) (Lo Se : Nat → Int32) (Ef : Nat → Nat → Int32) (gp gi am li : Int32) (dl : Nat) (z : Nat) (o : Nat) (g : Nat → Int64) (sz : Nat) (hz : z < 6) : kMH l yL_demand wsL_demand rmL_demand D (kT cI cZ cO cJ) [.ref (x 0), .int (nI z), .ref o] (wC cI cZ cO x a t b ck Ho T E Dm F S C la T1 E1 D1 F1 S1 C1 la1 Lo Se Ef gp gi am li dl ++ [(o, .inl (cJ, 1, .inr (.inl g)))]) (fun _ : Unit => wC cI cZ cO x a t b ck Ho T E Dm F S C la T1 E1 D1 F1 S1 C1 la1 Lo Se Ef gp gi am li dl ++ [(o, .inl (cJ, 1, .inr (.inl (vp_updL g 0 ((Dm z)).toInt64))))]) 0 0 sz (nI 0) := by
  refine kEnterH (cc := cL_demand) (maxL := 4) (ret := some .int) (hh := [(0, 9, 12, 13)]) (by decide +kernel) rfl (Nat.le_of_ble_eq_true rfl) ?_
  intro p e s m below meth c args hx hb hr hml hts hown hlocks htab hK hN A hA9 Q hQ9 hP hD hsz hS hA hX hC ls hl
  have hl : lv_has ls 4 [(0, .ref (x 0)), (1, .int (nI z)), (2, .ref o)] := hl
  obtain ⟨H, hH9⟩ : ∃ H, H = s.heap := ⟨_, rfl⟩
  rw [← hH9] at hP ⊢
  have hS : va_S A s.heap H [] := by rw [hH9]; exact va_S.rf
  refine lv_aload_n hx hb dL_demand_0 rfl (lv_at hl 2 rfl) ?_
  refine lv_iconst (v := nI 0) hx hb dL_demand_1 (by decide +kernel) ?_
  refine lv_aload_n hx hb dL_demand_2 rfl (lv_at hl 0 rfl) ?_
  refine lv_iload_n hx hb dL_demand_3 rfl (lv_at hl 1 rfl) ?_
  refine kCallP_i (W1 := fun _ : Unit => wC cI cZ cO x a t b ck Ho T E Dm F S C la T1 E1 D1 F1 S1 C1 la1 Lo Se Ef gp gi am li dl) (fun _ _ h => h) hP hD hS hA (fun _ => rfl) (va_runV (As := [.int (nI z)]) (rest := [.int (nI 0), .ref o]) ⟨hx, hb, hml, hown, hts⟩ (c_X2_demand l D cI cZ cO cJ x a t b ck Ho T E Dm F S C la T1 E1 D1 F1 S1 C1 la1 Lo Se Ef gp gi am li dl z H.size hz) (cwV (rm := rmX2_demand) 1 hts gL_demand_X2_demand rfl rfl rfl (by decide +kernel) ⟨Nat.le_of_ble_eq_true rfl, Nat.le_of_ble_eq_true rfl⟩) (kPreVW hK hN (pfP hP) (pfD hD) (va_recv hK (pfP hP) (ci := 2) (q0 := 0) rfl rfl)) rfl rfl hl.1 rfl (lv_room (Nat.le_of_ble_eq_true rfl)) dL_demand_4 ⟨Nat.zero_le _, Nat.zero_le _⟩) (fun r9 u H locs hr9 hP hD hS => ?_)
  subst hr9
  refine lv_i2l hx hb dL_demand_7 rfl ?_
  refine k_lastS hx hb hK 3 rfl hP hD hS dL_demand_8 (fun H locs hP hD hS => ?_)
  refine lv_goto (tgt := 15) hx hb dL_demand_9 (by decide) ?_
  refine lv_iconst (v := nI 0) hx hb dL_demand_15 (by decide +kernel) ?_
  subst hQ9
  subst hA9
  exact kRetH_i () hx hb hr hlocks hP hS dL_demand_16 rfl

abbrev rxL_demand : Room := { frames := 9, cells := 1, slots := 6, locals := 153 }
set_option maxHeartbeats 4000000 in
set_option maxRecDepth 100000 in
/-- demand_bad -/
theorem c_L_demand_bad (l : Launch) (hst : l.stackTraces = false) (D : va_G) (cI cZ cO cJ : ClassId) (x a t b : Nat → Nat) (ck : Nat) (Ho T E Dm F S : Nat → Int32) (C : Nat → Nat → Int32) (la : Nat) (T1 E1 D1 F1 S1 : Nat → Int32) (C1 : Nat → Nat → Int32) (la1 : Nat) (Lo Se : Nat → Int32) (Ef : Nat → Nat → Int32) (gp gi am li : Int32) (dl : Nat) (v : Int32) (o : Nat) (g : Nat → Int64) (sz : Nat) (h : ¬ inR v (nI 0) (nI 5)) : kMH l yL_demand wsL_demand rxL_demand D (kT cI cZ cO cJ) [.ref (x 0), .int v, .ref o] (wC cI cZ cO x a t b ck Ho T E Dm F S C la T1 E1 D1 F1 S1 C1 la1 Lo Se Ef gp gi am li dl ++ [(o, .inl (cJ, 1, .inr (.inl g)))]) (fun _ : Unit => wC cI cZ cO x a t b ck Ho T E Dm F S C la T1 E1 D1 F1 S1 C1 la1 Lo Se Ef gp gi am li dl ++ [(o, .inl (cJ, 1, .inr (.inl g)))]) 1 6 sz (nI 1) := by
  refine kEnterH (cc := cL_demand) (maxL := 4) (ret := some .int) (hh := [(0, 9, 12, 13)]) (by decide +kernel) rfl (Nat.le_of_ble_eq_true rfl) ?_
  intro p e s m below meth c args hx hb hr hml hts hown hlocks htab hK hN A hA9 Q hQ9 hP hD hsz hS hA hX hC ls hl
  have hl : lv_has ls 4 [(0, .ref (x 0)), (1, .int v), (2, .ref o)] := hl
  obtain ⟨H, hH9⟩ : ∃ H, H = s.heap := ⟨_, rfl⟩
  rw [← hH9] at hP ⊢
  have hS : va_S A s.heap H [] := by rw [hH9]; exact va_S.rf
  refine lv_aload_n hx hb dL_demand_0 rfl (lv_at hl 2 rfl) ?_
  refine lv_iconst (v := nI 0) hx hb dL_demand_1 (by decide +kernel) ?_
  refine lv_aload_n hx hb dL_demand_2 rfl (lv_at hl 0 rfl) ?_
  refine lv_iload_n hx hb dL_demand_3 rfl (lv_at hl 1 rfl) ?_
  refine kCallXP_i hP hD hS hA (vx_runV (As := [.int v]) (rest := [.int (nI 0), .ref o]) ⟨hx, hb, hml, hown, hts⟩ (c_X2_demand_bad l hst D cI cZ cO cJ x a t b ck Ho T E Dm F S C la T1 E1 D1 F1 S1 C1 la1 Lo Se Ef gp gi am li dl v H.size h) (cwV (rm := rxX2_demand) 1 hts gL_demand_X2_demand rfl rfl rfl (by decide +kernel) ⟨Nat.le_of_ble_eq_true rfl, Nat.le_of_ble_eq_true rfl⟩) (kPreVXW hK hN hX (pfP hP) (pfD hD) hS (kfree (pfD hD) hS hA) (va_recv hK (pfP hP) (ci := 2) (q0 := 0) rfl rfl)) rfl rfl hl.1 rfl (lv_room (Nat.le_of_ble_eq_true rfl)) dL_demand_4 ⟨Nat.le_of_ble_eq_true rfl, Nat.le_of_ble_eq_true rfl⟩) (fun ce q9 H locs hP hD hS hce hcv hcl => ?_)
  refine vx_catch (name := "java/lang/IllegalArgumentException") hown [] ⟨0, 9, 12, 13⟩ [] (by rw [htab]; rfl) (fun z h => absurd h (List.not_mem_nil)) rfl (by decide) (hts (.classLink RL 13 "java/lang/IllegalArgumentException") (by decide +kernel)) (kXw.use xB_iae_ok hX.2.2.2.2.2.2.1 _ (by decide +kernel)) hce hcv hcl ?_
  refine lv_astore_n (lv' := [(3, .ref q9), (0, .ref (x 0)), (1, .int v), (2, .ref o)]) hx hb dL_demand_12 rfl hl (by decide) rfl (fun ls hl => ?_)
  refine lv_iconst (v := nI 1) hx hb dL_demand_13 (by decide +kernel) ?_
  subst hQ9
  subst hA9
  exact kRetH_i () hx hb hr hlocks hP hS dL_demand_14 rfl

abbrev rmL_errors : Room := { frames := 3, cells := 0, slots := 0, locals := 63 }
set_option maxHeartbeats 4000000 in
set_option maxRecDepth 100000 in
/-- errors -/
theorem c_L_errors (l : Launch) (D : va_G) (cI cZ cO cJ : ClassId) (x a t b : Nat → Nat) (ck : Nat) (Ho T E Dm F S : Nat → Int32) (C : Nat → Nat → Int32) (la : Nat) (T1 E1 D1 F1 S1 : Nat → Int32) (C1 : Nat → Nat → Int32) (la1 : Nat) (Lo Se : Nat → Int32) (Ef : Nat → Nat → Int32) (gp gi am li : Int32) (dl : Nat) (z : Nat) (o : Nat) (g : Nat → Int64) (sz : Nat) (hz : z < 6) : kMH l yL_errors wsL_errors rmL_errors D (kT cI cZ cO cJ) [.ref (x 0), .int (nI z), .ref o] (wC cI cZ cO x a t b ck Ho T E Dm F S C la T1 E1 D1 F1 S1 C1 la1 Lo Se Ef gp gi am li dl ++ [(o, .inl (cJ, 1, .inr (.inl g)))]) (fun _ : Unit => wC cI cZ cO x a t b ck Ho T E Dm F S C la T1 E1 D1 F1 S1 C1 la1 Lo Se Ef gp gi am li dl ++ [(o, .inl (cJ, 1, .inr (.inl (vp_updL g 0 ((E z)).toInt64))))]) 0 0 sz (nI 0) := by
  refine kEnterH (cc := cL_errors) (maxL := 4) (ret := some .int) (hh := [(0, 9, 12, 13)]) (by decide +kernel) rfl (Nat.le_of_ble_eq_true rfl) ?_
  intro p e s m below meth c args hx hb hr hml hts hown hlocks htab hK hN A hA9 Q hQ9 hP hD hsz hS hA hX hC ls hl
  have hl : lv_has ls 4 [(0, .ref (x 0)), (1, .int (nI z)), (2, .ref o)] := hl
  obtain ⟨H, hH9⟩ : ∃ H, H = s.heap := ⟨_, rfl⟩
  rw [← hH9] at hP ⊢
  have hS : va_S A s.heap H [] := by rw [hH9]; exact va_S.rf
  refine lv_aload_n hx hb dL_errors_0 rfl (lv_at hl 2 rfl) ?_
  refine lv_iconst (v := nI 0) hx hb dL_errors_1 (by decide +kernel) ?_
  refine lv_aload_n hx hb dL_errors_2 rfl (lv_at hl 0 rfl) ?_
  refine lv_iload_n hx hb dL_errors_3 rfl (lv_at hl 1 rfl) ?_
  refine kCallP_i (W1 := fun _ : Unit => wC cI cZ cO x a t b ck Ho T E Dm F S C la T1 E1 D1 F1 S1 C1 la1 Lo Se Ef gp gi am li dl) (fun _ _ h => h) hP hD hS hA (fun _ => rfl) (va_runV (As := [.int (nI z)]) (rest := [.int (nI 0), .ref o]) ⟨hx, hb, hml, hown, hts⟩ (c_X2_errors l D cI cZ cO cJ x a t b ck Ho T E Dm F S C la T1 E1 D1 F1 S1 C1 la1 Lo Se Ef gp gi am li dl z H.size hz) (cwV (rm := rmX2_errors) 1 hts gL_errors_X2_errors rfl rfl rfl (by decide +kernel) ⟨Nat.le_of_ble_eq_true rfl, Nat.le_of_ble_eq_true rfl⟩) (kPreVW hK hN (pfP hP) (pfD hD) (va_recv hK (pfP hP) (ci := 2) (q0 := 0) rfl rfl)) rfl rfl hl.1 rfl (lv_room (Nat.le_of_ble_eq_true rfl)) dL_errors_4 ⟨Nat.zero_le _, Nat.zero_le _⟩) (fun r9 u H locs hr9 hP hD hS => ?_)
  subst hr9
  refine lv_i2l hx hb dL_errors_7 rfl ?_
  refine k_lastS hx hb hK 3 rfl hP hD hS dL_errors_8 (fun H locs hP hD hS => ?_)
  refine lv_goto (tgt := 15) hx hb dL_errors_9 (by decide) ?_
  refine lv_iconst (v := nI 0) hx hb dL_errors_15 (by decide +kernel) ?_
  subst hQ9
  subst hA9
  exact kRetH_i () hx hb hr hlocks hP hS dL_errors_16 rfl

abbrev rxL_errors : Room := { frames := 9, cells := 1, slots := 6, locals := 153 }
set_option maxHeartbeats 4000000 in
set_option maxRecDepth 100000 in
/-- errors_bad -/
theorem c_L_errors_bad (l : Launch) (hst : l.stackTraces = false) (D : va_G) (cI cZ cO cJ : ClassId) (x a t b : Nat → Nat) (ck : Nat) (Ho T E Dm F S : Nat → Int32) (C : Nat → Nat → Int32) (la : Nat) (T1 E1 D1 F1 S1 : Nat → Int32) (C1 : Nat → Nat → Int32) (la1 : Nat) (Lo Se : Nat → Int32) (Ef : Nat → Nat → Int32) (gp gi am li : Int32) (dl : Nat) (v : Int32) (o : Nat) (g : Nat → Int64) (sz : Nat) (h : ¬ inR v (nI 0) (nI 5)) : kMH l yL_errors wsL_errors rxL_errors D (kT cI cZ cO cJ) [.ref (x 0), .int v, .ref o] (wC cI cZ cO x a t b ck Ho T E Dm F S C la T1 E1 D1 F1 S1 C1 la1 Lo Se Ef gp gi am li dl ++ [(o, .inl (cJ, 1, .inr (.inl g)))]) (fun _ : Unit => wC cI cZ cO x a t b ck Ho T E Dm F S C la T1 E1 D1 F1 S1 C1 la1 Lo Se Ef gp gi am li dl ++ [(o, .inl (cJ, 1, .inr (.inl g)))]) 1 6 sz (nI 1) := by
  refine kEnterH (cc := cL_errors) (maxL := 4) (ret := some .int) (hh := [(0, 9, 12, 13)]) (by decide +kernel) rfl (Nat.le_of_ble_eq_true rfl) ?_
  intro p e s m below meth c args hx hb hr hml hts hown hlocks htab hK hN A hA9 Q hQ9 hP hD hsz hS hA hX hC ls hl
  have hl : lv_has ls 4 [(0, .ref (x 0)), (1, .int v), (2, .ref o)] := hl
  obtain ⟨H, hH9⟩ : ∃ H, H = s.heap := ⟨_, rfl⟩
  rw [← hH9] at hP ⊢
  have hS : va_S A s.heap H [] := by rw [hH9]; exact va_S.rf
  refine lv_aload_n hx hb dL_errors_0 rfl (lv_at hl 2 rfl) ?_
  refine lv_iconst (v := nI 0) hx hb dL_errors_1 (by decide +kernel) ?_
  refine lv_aload_n hx hb dL_errors_2 rfl (lv_at hl 0 rfl) ?_
  refine lv_iload_n hx hb dL_errors_3 rfl (lv_at hl 1 rfl) ?_
  refine kCallXP_i hP hD hS hA (vx_runV (As := [.int v]) (rest := [.int (nI 0), .ref o]) ⟨hx, hb, hml, hown, hts⟩ (c_X2_errors_bad l hst D cI cZ cO cJ x a t b ck Ho T E Dm F S C la T1 E1 D1 F1 S1 C1 la1 Lo Se Ef gp gi am li dl v H.size h) (cwV (rm := rxX2_errors) 1 hts gL_errors_X2_errors rfl rfl rfl (by decide +kernel) ⟨Nat.le_of_ble_eq_true rfl, Nat.le_of_ble_eq_true rfl⟩) (kPreVXW hK hN hX (pfP hP) (pfD hD) hS (kfree (pfD hD) hS hA) (va_recv hK (pfP hP) (ci := 2) (q0 := 0) rfl rfl)) rfl rfl hl.1 rfl (lv_room (Nat.le_of_ble_eq_true rfl)) dL_errors_4 ⟨Nat.le_of_ble_eq_true rfl, Nat.le_of_ble_eq_true rfl⟩) (fun ce q9 H locs hP hD hS hce hcv hcl => ?_)
  refine vx_catch (name := "java/lang/IllegalArgumentException") hown [] ⟨0, 9, 12, 13⟩ [] (by rw [htab]; rfl) (fun z h => absurd h (List.not_mem_nil)) rfl (by decide) (hts (.classLink RL 13 "java/lang/IllegalArgumentException") (by decide +kernel)) (kXw.use xB_iae_ok hX.2.2.2.2.2.2.1 _ (by decide +kernel)) hce hcv hcl ?_
  refine lv_astore_n (lv' := [(3, .ref q9), (0, .ref (x 0)), (1, .int v), (2, .ref o)]) hx hb dL_errors_12 rfl hl (by decide) rfl (fun ls hl => ?_)
  refine lv_iconst (v := nI 1) hx hb dL_errors_13 (by decide +kernel) ?_
  subst hQ9
  subst hA9
  exact kRetH_i () hx hb hr hlocks hP hS dL_errors_14 rfl

abbrev rmL_hotMinutes : Room := { frames := 3, cells := 0, slots := 0, locals := 63 }
set_option maxHeartbeats 4000000 in
set_option maxRecDepth 100000 in
/-- hotMinutes -/
theorem c_L_hotMinutes (l : Launch) (D : va_G) (cI cZ cO cJ : ClassId) (x a t b : Nat → Nat) (ck : Nat) (Ho T E Dm F S : Nat → Int32) (C : Nat → Nat → Int32) (la : Nat) (T1 E1 D1 F1 S1 : Nat → Int32) (C1 : Nat → Nat → Int32) (la1 : Nat) (Lo Se : Nat → Int32) (Ef : Nat → Nat → Int32) (gp gi am li : Int32) (dl : Nat) (z : Nat) (o : Nat) (g : Nat → Int64) (sz : Nat) (hz : z < 6) : kMH l yL_hotMinutes wsL_hotMinutes rmL_hotMinutes D (kT cI cZ cO cJ) [.ref (x 0), .int (nI z), .ref o] (wC cI cZ cO x a t b ck Ho T E Dm F S C la T1 E1 D1 F1 S1 C1 la1 Lo Se Ef gp gi am li dl ++ [(o, .inl (cJ, 1, .inr (.inl g)))]) (fun _ : Unit => wC cI cZ cO x a t b ck Ho T E Dm F S C la T1 E1 D1 F1 S1 C1 la1 Lo Se Ef gp gi am li dl ++ [(o, .inl (cJ, 1, .inr (.inl (vp_updL g 0 ((Ho z)).toInt64))))]) 0 0 sz (nI 0) := by
  refine kEnterH (cc := cL_hotMinutes) (maxL := 4) (ret := some .int) (hh := [(0, 9, 12, 13)]) (by decide +kernel) rfl (Nat.le_of_ble_eq_true rfl) ?_
  intro p e s m below meth c args hx hb hr hml hts hown hlocks htab hK hN A hA9 Q hQ9 hP hD hsz hS hA hX hC ls hl
  have hl : lv_has ls 4 [(0, .ref (x 0)), (1, .int (nI z)), (2, .ref o)] := hl
  obtain ⟨H, hH9⟩ : ∃ H, H = s.heap := ⟨_, rfl⟩
  rw [← hH9] at hP ⊢
  have hS : va_S A s.heap H [] := by rw [hH9]; exact va_S.rf
  refine lv_aload_n hx hb dL_hotMinutes_0 rfl (lv_at hl 2 rfl) ?_
  refine lv_iconst (v := nI 0) hx hb dL_hotMinutes_1 (by decide +kernel) ?_
  refine lv_aload_n hx hb dL_hotMinutes_2 rfl (lv_at hl 0 rfl) ?_
  refine lv_iload_n hx hb dL_hotMinutes_3 rfl (lv_at hl 1 rfl) ?_
  refine kCallP_i (W1 := fun _ : Unit => wC cI cZ cO x a t b ck Ho T E Dm F S C la T1 E1 D1 F1 S1 C1 la1 Lo Se Ef gp gi am li dl) (fun _ _ h => h) hP hD hS hA (fun _ => rfl) (va_runV (As := [.int (nI z)]) (rest := [.int (nI 0), .ref o]) ⟨hx, hb, hml, hown, hts⟩ (c_X2_hotMinutes l D cI cZ cO cJ x a t b ck Ho T E Dm F S C la T1 E1 D1 F1 S1 C1 la1 Lo Se Ef gp gi am li dl z H.size hz) (cwV (rm := rmX2_hotMinutes) 1 hts gL_hotMinutes_X2_hotMinutes rfl rfl rfl (by decide +kernel) ⟨Nat.le_of_ble_eq_true rfl, Nat.le_of_ble_eq_true rfl⟩) (kPreVW hK hN (pfP hP) (pfD hD) (va_recv hK (pfP hP) (ci := 2) (q0 := 0) rfl rfl)) rfl rfl hl.1 rfl (lv_room (Nat.le_of_ble_eq_true rfl)) dL_hotMinutes_4 ⟨Nat.zero_le _, Nat.zero_le _⟩) (fun r9 u H locs hr9 hP hD hS => ?_)
  subst hr9
  refine lv_i2l hx hb dL_hotMinutes_7 rfl ?_
  refine k_lastS hx hb hK 3 rfl hP hD hS dL_hotMinutes_8 (fun H locs hP hD hS => ?_)
  refine lv_goto (tgt := 15) hx hb dL_hotMinutes_9 (by decide) ?_
  refine lv_iconst (v := nI 0) hx hb dL_hotMinutes_15 (by decide +kernel) ?_
  subst hQ9
  subst hA9
  exact kRetH_i () hx hb hr hlocks hP hS dL_hotMinutes_16 rfl

abbrev rxL_hotMinutes : Room := { frames := 9, cells := 1, slots := 6, locals := 153 }
set_option maxHeartbeats 4000000 in
set_option maxRecDepth 100000 in
/-- hotMinutes_bad -/
theorem c_L_hotMinutes_bad (l : Launch) (hst : l.stackTraces = false) (D : va_G) (cI cZ cO cJ : ClassId) (x a t b : Nat → Nat) (ck : Nat) (Ho T E Dm F S : Nat → Int32) (C : Nat → Nat → Int32) (la : Nat) (T1 E1 D1 F1 S1 : Nat → Int32) (C1 : Nat → Nat → Int32) (la1 : Nat) (Lo Se : Nat → Int32) (Ef : Nat → Nat → Int32) (gp gi am li : Int32) (dl : Nat) (v : Int32) (o : Nat) (g : Nat → Int64) (sz : Nat) (h : ¬ inR v (nI 0) (nI 5)) : kMH l yL_hotMinutes wsL_hotMinutes rxL_hotMinutes D (kT cI cZ cO cJ) [.ref (x 0), .int v, .ref o] (wC cI cZ cO x a t b ck Ho T E Dm F S C la T1 E1 D1 F1 S1 C1 la1 Lo Se Ef gp gi am li dl ++ [(o, .inl (cJ, 1, .inr (.inl g)))]) (fun _ : Unit => wC cI cZ cO x a t b ck Ho T E Dm F S C la T1 E1 D1 F1 S1 C1 la1 Lo Se Ef gp gi am li dl ++ [(o, .inl (cJ, 1, .inr (.inl g)))]) 1 6 sz (nI 1) := by
  refine kEnterH (cc := cL_hotMinutes) (maxL := 4) (ret := some .int) (hh := [(0, 9, 12, 13)]) (by decide +kernel) rfl (Nat.le_of_ble_eq_true rfl) ?_
  intro p e s m below meth c args hx hb hr hml hts hown hlocks htab hK hN A hA9 Q hQ9 hP hD hsz hS hA hX hC ls hl
  have hl : lv_has ls 4 [(0, .ref (x 0)), (1, .int v), (2, .ref o)] := hl
  obtain ⟨H, hH9⟩ : ∃ H, H = s.heap := ⟨_, rfl⟩
  rw [← hH9] at hP ⊢
  have hS : va_S A s.heap H [] := by rw [hH9]; exact va_S.rf
  refine lv_aload_n hx hb dL_hotMinutes_0 rfl (lv_at hl 2 rfl) ?_
  refine lv_iconst (v := nI 0) hx hb dL_hotMinutes_1 (by decide +kernel) ?_
  refine lv_aload_n hx hb dL_hotMinutes_2 rfl (lv_at hl 0 rfl) ?_
  refine lv_iload_n hx hb dL_hotMinutes_3 rfl (lv_at hl 1 rfl) ?_
  refine kCallXP_i hP hD hS hA (vx_runV (As := [.int v]) (rest := [.int (nI 0), .ref o]) ⟨hx, hb, hml, hown, hts⟩ (c_X2_hotMinutes_bad l hst D cI cZ cO cJ x a t b ck Ho T E Dm F S C la T1 E1 D1 F1 S1 C1 la1 Lo Se Ef gp gi am li dl v H.size h) (cwV (rm := rxX2_hotMinutes) 1 hts gL_hotMinutes_X2_hotMinutes rfl rfl rfl (by decide +kernel) ⟨Nat.le_of_ble_eq_true rfl, Nat.le_of_ble_eq_true rfl⟩) (kPreVXW hK hN hX (pfP hP) (pfD hD) hS (kfree (pfD hD) hS hA) (va_recv hK (pfP hP) (ci := 2) (q0 := 0) rfl rfl)) rfl rfl hl.1 rfl (lv_room (Nat.le_of_ble_eq_true rfl)) dL_hotMinutes_4 ⟨Nat.le_of_ble_eq_true rfl, Nat.le_of_ble_eq_true rfl⟩) (fun ce q9 H locs hP hD hS hce hcv hcl => ?_)
  refine vx_catch (name := "java/lang/IllegalArgumentException") hown [] ⟨0, 9, 12, 13⟩ [] (by rw [htab]; rfl) (fun z h => absurd h (List.not_mem_nil)) rfl (by decide) (hts (.classLink RL 13 "java/lang/IllegalArgumentException") (by decide +kernel)) (kXw.use xB_iae_ok hX.2.2.2.2.2.2.1 _ (by decide +kernel)) hce hcv hcl ?_
  refine lv_astore_n (lv' := [(3, .ref q9), (0, .ref (x 0)), (1, .int v), (2, .ref o)]) hx hb dL_hotMinutes_12 rfl hl (by decide) rfl (fun ls hl => ?_)
  refine lv_iconst (v := nI 1) hx hb dL_hotMinutes_13 (by decide +kernel) ?_
  subst hQ9
  subst hA9
  exact kRetH_i () hx hb hr hlocks hP hS dL_hotMinutes_14 rfl

abbrev rmL_expected : Room := { frames := 6, cells := 0, slots := 0, locals := 139 }
set_option maxHeartbeats 4000000 in
set_option maxRecDepth 100000 in
/-- expected -/
theorem c_L_expected (l : Launch) (D : va_G) (cI cZ cO cJ : ClassId) (x a t b : Nat → Nat) (ck : Nat) (Ho : Nat → Int32) (σ : HS) (T1 E1 D1 F1 S1 : Nat → Int32) (C1 : Nat → Nat → Int32) (la1 : Nat) (Lo Se : Nat → Int32) (Ef : Nat → Nat → Int32) (gp gi am li : Int32) (dl : Nat) (z0 m9 : Nat) (o : Nat) (g : Nat → Int64) (sz : Nat) (hz0 : z0 < 6) (hm : m9 < 60) (h8 : sL σ < 9) (h9 : dl < 9) (hFb : ∀ f : Nat, f < 8 → sF σ f = nI 0 ∨ sF σ f = nI 1) : kMH l yL_expected wsL_expected rmL_expected D (kT cI cZ cO cJ) [.ref (x 0), .int (nI z0), .int (nI (m9 + 1)), .ref o] (wC cI cZ cO x a t b ck Ho (sT σ) (sE σ) (sD σ) (sF σ) (sS σ) (sC σ) (sL σ) T1 E1 D1 F1 S1 C1 la1 Lo Se Ef gp gi am li dl ++ [(o, .inl (cJ, 1, .inr (.inl g)))]) (fun u : HS => wC cI cZ cO x a t b ck Ho (sT σ) (sE σ) (sD σ) (sF σ) (sS σ) (sC σ) (sL σ) (sT u) (sE u) (sD u) (sF u) (sS u) (sC u) (sL u) Lo Se Ef gp gi am li dl ++ [(o, .inl (cJ, 1, .inr (.inl (vp_updL g 0 ((gOf gp gi am Lo Se Ef dl σ z0 m9)).toInt64))))]) 0 0 sz (nI 0) := by
  refine kEnterH (cc := cL_expected) (maxL := 5) (ret := some .int) (hh := [(0, 10, 13, 13)]) (by decide +kernel) rfl (Nat.le_of_ble_eq_true rfl) ?_
  intro p e s m below meth c args hx hb hr hml hts hown hlocks htab hK hN A hA9 Q hQ9 hP hD hsz hS hA hX hC ls hl
  have hl : lv_has ls 5 [(0, .ref (x 0)), (1, .int (nI z0)), (2, .int (nI (m9 + 1))), (3, .ref o)] := hl
  obtain ⟨H, hH9⟩ : ∃ H, H = s.heap := ⟨_, rfl⟩
  rw [← hH9] at hP ⊢
  have hS : va_S A s.heap H [] := by rw [hH9]; exact va_S.rf
  refine lv_aload_n hx hb dL_expected_0 rfl (lv_at hl 3 rfl) ?_
  refine lv_iconst (v := nI 0) hx hb dL_expected_1 (by decide +kernel) ?_
  refine lv_aload_n hx hb dL_expected_2 rfl (lv_at hl 0 rfl) ?_
  refine lv_iload_n hx hb dL_expected_3 rfl (lv_at hl 1 rfl) ?_
  refine lv_iload_n hx hb dL_expected_4 rfl (lv_at hl 2 rfl) ?_
  refine kCallP_i (W1 := fun u : HS => wC cI cZ cO x a t b ck Ho (sT σ) (sE σ) (sD σ) (sF σ) (sS σ) (sC σ) (sL σ) (sT u) (sE u) (sD u) (sF u) (sS u) (sC u) (sL u) Lo Se Ef gp gi am li dl) (fun _ _ h => h) hP hD hS hA (fun _ => rfl) (va_runV (As := [.int (nI z0), .int (nI (m9 + 1))]) (rest := [.int (nI 0), .ref o]) ⟨hx, hb, hml, hown, hts⟩ (c_X2_expected l D cI cZ cO cJ x a t b ck Ho σ T1 E1 D1 F1 S1 C1 la1 Lo Se Ef gp gi am li dl z0 m9 H.size hz0 hm h8 h9 hFb) (cwV (rm := rmX2_expected) 2 hts gL_expected_X2_expected rfl rfl rfl (by decide +kernel) ⟨Nat.le_of_ble_eq_true rfl, Nat.le_of_ble_eq_true rfl⟩) (kPreVW hK hN (pfP hP) (pfD hD) (va_recv hK (pfP hP) (ci := 2) (q0 := 0) rfl rfl)) rfl rfl hl.1 rfl (lv_room (Nat.le_of_ble_eq_true rfl)) dL_expected_5 ⟨Nat.zero_le _, Nat.zero_le _⟩) (fun r9 u H locs hr9 hP hD hS => ?_)
  subst hr9
  refine lv_i2l hx hb dL_expected_8 rfl ?_
  refine k_lastS hx hb hK 3 rfl hP hD hS dL_expected_9 (fun H locs hP hD hS => ?_)
  refine lv_goto (tgt := 17) hx hb dL_expected_10 (by decide) ?_
  refine lv_iconst (v := nI 0) hx hb dL_expected_17 (by decide +kernel) ?_
  subst hQ9
  subst hA9
  exact kRetH_i u hx hb hr hlocks hP hS dL_expected_18 rfl

abbrev rxL_expected : Room := { frames := 10, cells := 1, slots := 6, locals := 175 }
set_option maxHeartbeats 4000000 in
set_option maxRecDepth 100000 in
/-- expected_bad -/
theorem c_L_expected_bad (l : Launch) (hst : l.stackTraces = false) (D : va_G) (cI cZ cO cJ : ClassId) (x a t b : Nat → Nat) (ck : Nat) (Ho T E Dm F S : Nat → Int32) (C : Nat → Nat → Int32) (la : Nat) (T1 E1 D1 F1 S1 : Nat → Int32) (C1 : Nat → Nat → Int32) (la1 : Nat) (Lo Se : Nat → Int32) (Ef : Nat → Nat → Int32) (gp gi am li : Int32) (dl : Nat) (v w : Int32) (o : Nat) (g : Nat → Int64) (sz : Nat) (h : ¬ (inR v (nI 0) (nI 5) ∧ inR w (nI 1) (nI 60))) : kMH l yL_expected wsL_expected rxL_expected D (kT cI cZ cO cJ) [.ref (x 0), .int v, .int w, .ref o] (wC cI cZ cO x a t b ck Ho T E Dm F S C la T1 E1 D1 F1 S1 C1 la1 Lo Se Ef gp gi am li dl ++ [(o, .inl (cJ, 1, .inr (.inl g)))]) (fun _ : Unit => wC cI cZ cO x a t b ck Ho T E Dm F S C la T1 E1 D1 F1 S1 C1 la1 Lo Se Ef gp gi am li dl ++ [(o, .inl (cJ, 1, .inr (.inl g)))]) 1 6 sz (nI 1) := by
  refine kEnterH (cc := cL_expected) (maxL := 5) (ret := some .int) (hh := [(0, 10, 13, 13)]) (by decide +kernel) rfl (Nat.le_of_ble_eq_true rfl) ?_
  intro p e s m below meth c args hx hb hr hml hts hown hlocks htab hK hN A hA9 Q hQ9 hP hD hsz hS hA hX hC ls hl
  have hl : lv_has ls 5 [(0, .ref (x 0)), (1, .int v), (2, .int w), (3, .ref o)] := hl
  obtain ⟨H, hH9⟩ : ∃ H, H = s.heap := ⟨_, rfl⟩
  rw [← hH9] at hP ⊢
  have hS : va_S A s.heap H [] := by rw [hH9]; exact va_S.rf
  refine lv_aload_n hx hb dL_expected_0 rfl (lv_at hl 3 rfl) ?_
  refine lv_iconst (v := nI 0) hx hb dL_expected_1 (by decide +kernel) ?_
  refine lv_aload_n hx hb dL_expected_2 rfl (lv_at hl 0 rfl) ?_
  refine lv_iload_n hx hb dL_expected_3 rfl (lv_at hl 1 rfl) ?_
  refine lv_iload_n hx hb dL_expected_4 rfl (lv_at hl 2 rfl) ?_
  refine kCallXP_i hP hD hS hA (vx_runV (As := [.int v, .int w]) (rest := [.int (nI 0), .ref o]) ⟨hx, hb, hml, hown, hts⟩ (c_X2_expected_bad l hst D cI cZ cO cJ x a t b ck Ho T E Dm F S C la T1 E1 D1 F1 S1 C1 la1 Lo Se Ef gp gi am li dl v w H.size h) (cwV (rm := rxX2_expected) 2 hts gL_expected_X2_expected rfl rfl rfl (by decide +kernel) ⟨Nat.le_of_ble_eq_true rfl, Nat.le_of_ble_eq_true rfl⟩) (kPreVXW hK hN hX (pfP hP) (pfD hD) hS (kfree (pfD hD) hS hA) (va_recv hK (pfP hP) (ci := 2) (q0 := 0) rfl rfl)) rfl rfl hl.1 rfl (lv_room (Nat.le_of_ble_eq_true rfl)) dL_expected_5 ⟨Nat.le_of_ble_eq_true rfl, Nat.le_of_ble_eq_true rfl⟩) (fun ce q9 H locs hP hD hS hce hcv hcl => ?_)
  refine vx_catch (name := "java/lang/IllegalArgumentException") hown [] ⟨0, 10, 13, 13⟩ [] (by rw [htab]; rfl) (fun z h => absurd h (List.not_mem_nil)) rfl (by decide) (hts (.classLink RL 13 "java/lang/IllegalArgumentException") (by decide +kernel)) (kXw.use xB_iae_ok hX.2.2.2.2.2.2.1 _ (by decide +kernel)) hce hcv hcl ?_
  refine lv_astore (lv' := [(4, .ref q9), (0, .ref (x 0)), (1, .int v), (2, .int w), (3, .ref o)]) hx hb dL_expected_13 hl (by decide) rfl (fun ls hl => ?_)
  refine lv_iconst (v := nI 1) hx hb dL_expected_15 (by decide +kernel) ?_
  subst hQ9
  subst hA9
  exact kRetH_i () hx hb hr hlocks hP hS dL_expected_16 rfl

abbrev rmL_critical : Room := { frames := 7, cells := 0, slots := 0, locals := 165 }
set_option maxHeartbeats 4000000 in
set_option maxRecDepth 100000 in
/-- critical -/
theorem c_L_critical (l : Launch) (D : va_G) (cI cZ cO cJ : ClassId) (x a t b : Nat → Nat) (ck : Nat) (Ho : Nat → Int32) (σ : HS) (T1 E1 D1 F1 S1 : Nat → Int32) (C1 : Nat → Nat → Int32) (la1 : Nat) (Lo Se : Nat → Int32) (Ef : Nat → Nat → Int32) (gp gi am li : Int32) (dl : Nat) (z0 m9 : Nat) (o : Nat) (g : Nat → Int64) (sz : Nat) (hz0 : z0 < 6) (hm : m9 < 60) (h8 : sL σ < 9) (h9 : dl < 9) (hFb : ∀ f : Nat, f < 8 → sF σ f = nI 0 ∨ sF σ f = nI 1) : kMH l yL_critical wsL_critical rmL_critical D (kT cI cZ cO cJ) [.ref (x 0), .int (nI z0), .int (nI (m9 + 1)), .ref o] (wC cI cZ cO x a t b ck Ho (sT σ) (sE σ) (sD σ) (sF σ) (sS σ) (sC σ) (sL σ) T1 E1 D1 F1 S1 C1 la1 Lo Se Ef gp gi am li dl ++ [(o, .inl (cJ, 1, .inr (.inl g)))]) (fun u : HS => wC cI cZ cO x a t b ck Ho (sT σ) (sE σ) (sD σ) (sF σ) (sS σ) (sC σ) (sL σ) (sT u) (sE u) (sD u) (sF u) (sS u) (sC u) (sL u) Lo Se Ef gp gi am li dl ++ [(o, .inl (cJ, 1, .inr (.inl (vp_updL g 0 (((crit (sF σ) (fun f => gOf gp gi am Lo Se Ef dl (hFail σ f) z0 m9) 8).1)).toInt64))))]) 0 0 sz (nI 0) := by
  refine kEnterH (cc := cL_critical) (maxL := 5) (ret := some .int) (hh := [(0, 10, 13, 13)]) (by decide +kernel) rfl (Nat.le_of_ble_eq_true rfl) ?_
  intro p e s m below meth c args hx hb hr hml hts hown hlocks htab hK hN A hA9 Q hQ9 hP hD hsz hS hA hX hC ls hl
  have hl : lv_has ls 5 [(0, .ref (x 0)), (1, .int (nI z0)), (2, .int (nI (m9 + 1))), (3, .ref o)] := hl
  obtain ⟨H, hH9⟩ : ∃ H, H = s.heap := ⟨_, rfl⟩
  rw [← hH9] at hP ⊢
  have hS : va_S A s.heap H [] := by rw [hH9]; exact va_S.rf
  refine lv_aload_n hx hb dL_critical_0 rfl (lv_at hl 3 rfl) ?_
  refine lv_iconst (v := nI 0) hx hb dL_critical_1 (by decide +kernel) ?_
  refine lv_aload_n hx hb dL_critical_2 rfl (lv_at hl 0 rfl) ?_
  refine lv_iload_n hx hb dL_critical_3 rfl (lv_at hl 1 rfl) ?_
  refine lv_iload_n hx hb dL_critical_4 rfl (lv_at hl 2 rfl) ?_
  refine kCallP_i (W1 := fun u : HS => wC cI cZ cO x a t b ck Ho (sT σ) (sE σ) (sD σ) (sF σ) (sS σ) (sC σ) (sL σ) (sT u) (sE u) (sD u) (sF u) (sS u) (sC u) (sL u) Lo Se Ef gp gi am li dl) (fun _ _ h => h) hP hD hS hA (fun _ => rfl) (va_runV (As := [.int (nI z0), .int (nI (m9 + 1))]) (rest := [.int (nI 0), .ref o]) ⟨hx, hb, hml, hown, hts⟩ (c_X2_critical l D cI cZ cO cJ x a t b ck Ho σ T1 E1 D1 F1 S1 C1 la1 Lo Se Ef gp gi am li dl z0 m9 H.size hz0 hm h8 h9 hFb) (cwV (rm := rmX2_critical) 2 hts gL_critical_X2_critical rfl rfl rfl (by decide +kernel) ⟨Nat.le_of_ble_eq_true rfl, Nat.le_of_ble_eq_true rfl⟩) (kPreVW hK hN (pfP hP) (pfD hD) (va_recv hK (pfP hP) (ci := 2) (q0 := 0) rfl rfl)) rfl rfl hl.1 rfl (lv_room (Nat.le_of_ble_eq_true rfl)) dL_critical_5 ⟨Nat.zero_le _, Nat.zero_le _⟩) (fun r9 u H locs hr9 hP hD hS => ?_)
  subst hr9
  refine lv_i2l hx hb dL_critical_8 rfl ?_
  refine k_lastS hx hb hK 3 rfl hP hD hS dL_critical_9 (fun H locs hP hD hS => ?_)
  refine lv_goto (tgt := 17) hx hb dL_critical_10 (by decide) ?_
  refine lv_iconst (v := nI 0) hx hb dL_critical_17 (by decide +kernel) ?_
  subst hQ9
  subst hA9
  exact kRetH_i u hx hb hr hlocks hP hS dL_critical_18 rfl

abbrev rxL_critical : Room := { frames := 10, cells := 1, slots := 6, locals := 175 }
set_option maxHeartbeats 4000000 in
set_option maxRecDepth 100000 in
/-- critical_bad -/
theorem c_L_critical_bad (l : Launch) (hst : l.stackTraces = false) (D : va_G) (cI cZ cO cJ : ClassId) (x a t b : Nat → Nat) (ck : Nat) (Ho T E Dm F S : Nat → Int32) (C : Nat → Nat → Int32) (la : Nat) (T1 E1 D1 F1 S1 : Nat → Int32) (C1 : Nat → Nat → Int32) (la1 : Nat) (Lo Se : Nat → Int32) (Ef : Nat → Nat → Int32) (gp gi am li : Int32) (dl : Nat) (v w : Int32) (o : Nat) (g : Nat → Int64) (sz : Nat) (h : ¬ (inR v (nI 0) (nI 5) ∧ inR w (nI 1) (nI 60))) : kMH l yL_critical wsL_critical rxL_critical D (kT cI cZ cO cJ) [.ref (x 0), .int v, .int w, .ref o] (wC cI cZ cO x a t b ck Ho T E Dm F S C la T1 E1 D1 F1 S1 C1 la1 Lo Se Ef gp gi am li dl ++ [(o, .inl (cJ, 1, .inr (.inl g)))]) (fun _ : Unit => wC cI cZ cO x a t b ck Ho T E Dm F S C la T1 E1 D1 F1 S1 C1 la1 Lo Se Ef gp gi am li dl ++ [(o, .inl (cJ, 1, .inr (.inl g)))]) 1 6 sz (nI 1) := by
  refine kEnterH (cc := cL_critical) (maxL := 5) (ret := some .int) (hh := [(0, 10, 13, 13)]) (by decide +kernel) rfl (Nat.le_of_ble_eq_true rfl) ?_
  intro p e s m below meth c args hx hb hr hml hts hown hlocks htab hK hN A hA9 Q hQ9 hP hD hsz hS hA hX hC ls hl
  have hl : lv_has ls 5 [(0, .ref (x 0)), (1, .int v), (2, .int w), (3, .ref o)] := hl
  obtain ⟨H, hH9⟩ : ∃ H, H = s.heap := ⟨_, rfl⟩
  rw [← hH9] at hP ⊢
  have hS : va_S A s.heap H [] := by rw [hH9]; exact va_S.rf
  refine lv_aload_n hx hb dL_critical_0 rfl (lv_at hl 3 rfl) ?_
  refine lv_iconst (v := nI 0) hx hb dL_critical_1 (by decide +kernel) ?_
  refine lv_aload_n hx hb dL_critical_2 rfl (lv_at hl 0 rfl) ?_
  refine lv_iload_n hx hb dL_critical_3 rfl (lv_at hl 1 rfl) ?_
  refine lv_iload_n hx hb dL_critical_4 rfl (lv_at hl 2 rfl) ?_
  refine kCallXP_i hP hD hS hA (vx_runV (As := [.int v, .int w]) (rest := [.int (nI 0), .ref o]) ⟨hx, hb, hml, hown, hts⟩ (c_X2_critical_bad l hst D cI cZ cO cJ x a t b ck Ho T E Dm F S C la T1 E1 D1 F1 S1 C1 la1 Lo Se Ef gp gi am li dl v w H.size h) (cwV (rm := rxX2_critical) 2 hts gL_critical_X2_critical rfl rfl rfl (by decide +kernel) ⟨Nat.le_of_ble_eq_true rfl, Nat.le_of_ble_eq_true rfl⟩) (kPreVXW hK hN hX (pfP hP) (pfD hD) hS (kfree (pfD hD) hS hA) (va_recv hK (pfP hP) (ci := 2) (q0 := 0) rfl rfl)) rfl rfl hl.1 rfl (lv_room (Nat.le_of_ble_eq_true rfl)) dL_critical_5 ⟨Nat.le_of_ble_eq_true rfl, Nat.le_of_ble_eq_true rfl⟩) (fun ce q9 H locs hP hD hS hce hcv hcl => ?_)
  refine vx_catch (name := "java/lang/IllegalArgumentException") hown [] ⟨0, 10, 13, 13⟩ [] (by rw [htab]; rfl) (fun z h => absurd h (List.not_mem_nil)) rfl (by decide) (hts (.classLink RL 13 "java/lang/IllegalArgumentException") (by decide +kernel)) (kXw.use xB_iae_ok hX.2.2.2.2.2.2.1 _ (by decide +kernel)) hce hcv hcl ?_
  refine lv_astore (lv' := [(4, .ref q9), (0, .ref (x 0)), (1, .int v), (2, .int w), (3, .ref o)]) hx hb dL_critical_13 hl (by decide) rfl (fun ls hl => ?_)
  refine lv_iconst (v := nI 1) hx hb dL_critical_15 (by decide +kernel) ?_
  subst hQ9
  subst hA9
  exact kRetH_i () hx hb hr hlocks hP hS dL_critical_16 rfl

abbrev rmL_margin : Room := { frames := 7, cells := 0, slots := 0, locals := 166 }
set_option maxHeartbeats 4000000 in
set_option maxRecDepth 100000 in
/-- margin -/
theorem c_L_margin (l : Launch) (D : va_G) (cI cZ cO cJ : ClassId) (x a t b : Nat → Nat) (ck : Nat) (Ho : Nat → Int32) (σ : HS) (T1 E1 D1 F1 S1 : Nat → Int32) (C1 : Nat → Nat → Int32) (la1 : Nat) (Lo Se : Nat → Int32) (Ef : Nat → Nat → Int32) (gp gi am li : Int32) (dl : Nat) (z0 m9 : Nat) (o : Nat) (g : Nat → Int64) (sz : Nat) (hz0 : z0 < 6) (hm : m9 < 60) (h8 : sL σ < 9) (h9 : dl < 9) (hFb : ∀ f : Nat, f < 8 → sF σ f = nI 0 ∨ sF σ f = nI 1) : kMH l yL_margin wsL_margin rmL_margin D (kT cI cZ cO cJ) [.ref (x 0), .int (nI z0), .int (nI (m9 + 1)), .ref o] (wC cI cZ cO x a t b ck Ho (sT σ) (sE σ) (sD σ) (sF σ) (sS σ) (sC σ) (sL σ) T1 E1 D1 F1 S1 C1 la1 Lo Se Ef gp gi am li dl ++ [(o, .inl (cJ, 1, .inr (.inl g)))]) (fun u : HS => wC cI cZ cO x a t b ck Ho (sT σ) (sE σ) (sD σ) (sF σ) (sS σ) (sC σ) (sL σ) (sT u) (sE u) (sD u) (sF u) (sS u) (sC u) (sL u) Lo Se Ef gp gi am li dl ++ [(o, .inl (cJ, 1, .inr (.inl (vp_updL g 0 ((li - gAny gp gi am Lo Se Ef dl σ z0 m9 (crit (sF σ) (fun f => gOf gp gi am Lo Se Ef dl (hFail σ f) z0 m9) 8).1)).toInt64))))]) 0 0 sz (nI 0) := by
  refine kEnterH (cc := cL_margin) (maxL := 5) (ret := some .int) (hh := [(0, 10, 13, 13)]) (by decide +kernel) rfl (Nat.le_of_ble_eq_true rfl) ?_
  intro p e s m below meth c args hx hb hr hml hts hown hlocks htab hK hN A hA9 Q hQ9 hP hD hsz hS hA hX hC ls hl
  have hl : lv_has ls 5 [(0, .ref (x 0)), (1, .int (nI z0)), (2, .int (nI (m9 + 1))), (3, .ref o)] := hl
  obtain ⟨H, hH9⟩ : ∃ H, H = s.heap := ⟨_, rfl⟩
  rw [← hH9] at hP ⊢
  have hS : va_S A s.heap H [] := by rw [hH9]; exact va_S.rf
  refine lv_aload_n hx hb dL_margin_0 rfl (lv_at hl 3 rfl) ?_
  refine lv_iconst (v := nI 0) hx hb dL_margin_1 (by decide +kernel) ?_
  refine lv_aload_n hx hb dL_margin_2 rfl (lv_at hl 0 rfl) ?_
  refine lv_iload_n hx hb dL_margin_3 rfl (lv_at hl 1 rfl) ?_
  refine lv_iload_n hx hb dL_margin_4 rfl (lv_at hl 2 rfl) ?_
  refine kCallP_i (W1 := fun u : HS => wC cI cZ cO x a t b ck Ho (sT σ) (sE σ) (sD σ) (sF σ) (sS σ) (sC σ) (sL σ) (sT u) (sE u) (sD u) (sF u) (sS u) (sC u) (sL u) Lo Se Ef gp gi am li dl) (fun _ _ h => h) hP hD hS hA (fun _ => rfl) (va_runV (As := [.int (nI z0), .int (nI (m9 + 1))]) (rest := [.int (nI 0), .ref o]) ⟨hx, hb, hml, hown, hts⟩ (c_X2_margin l D cI cZ cO cJ x a t b ck Ho σ T1 E1 D1 F1 S1 C1 la1 Lo Se Ef gp gi am li dl z0 m9 H.size hz0 hm h8 h9 hFb) (cwV (rm := rmX2_margin) 2 hts gL_margin_X2_margin rfl rfl rfl (by decide +kernel) ⟨Nat.le_of_ble_eq_true rfl, Nat.le_of_ble_eq_true rfl⟩) (kPreVW hK hN (pfP hP) (pfD hD) (va_recv hK (pfP hP) (ci := 2) (q0 := 0) rfl rfl)) rfl rfl hl.1 rfl (lv_room (Nat.le_of_ble_eq_true rfl)) dL_margin_5 ⟨Nat.zero_le _, Nat.zero_le _⟩) (fun r9 u H locs hr9 hP hD hS => ?_)
  subst hr9
  refine lv_i2l hx hb dL_margin_8 rfl ?_
  refine k_lastS hx hb hK 3 rfl hP hD hS dL_margin_9 (fun H locs hP hD hS => ?_)
  refine lv_goto (tgt := 17) hx hb dL_margin_10 (by decide) ?_
  refine lv_iconst (v := nI 0) hx hb dL_margin_17 (by decide +kernel) ?_
  subst hQ9
  subst hA9
  exact kRetH_i u hx hb hr hlocks hP hS dL_margin_18 rfl

abbrev rxL_margin : Room := { frames := 10, cells := 1, slots := 6, locals := 176 }
set_option maxHeartbeats 4000000 in
set_option maxRecDepth 100000 in
/-- margin_bad -/
theorem c_L_margin_bad (l : Launch) (hst : l.stackTraces = false) (D : va_G) (cI cZ cO cJ : ClassId) (x a t b : Nat → Nat) (ck : Nat) (Ho T E Dm F S : Nat → Int32) (C : Nat → Nat → Int32) (la : Nat) (T1 E1 D1 F1 S1 : Nat → Int32) (C1 : Nat → Nat → Int32) (la1 : Nat) (Lo Se : Nat → Int32) (Ef : Nat → Nat → Int32) (gp gi am li : Int32) (dl : Nat) (v w : Int32) (o : Nat) (g : Nat → Int64) (sz : Nat) (h : ¬ (inR v (nI 0) (nI 5) ∧ inR w (nI 1) (nI 60))) : kMH l yL_margin wsL_margin rxL_margin D (kT cI cZ cO cJ) [.ref (x 0), .int v, .int w, .ref o] (wC cI cZ cO x a t b ck Ho T E Dm F S C la T1 E1 D1 F1 S1 C1 la1 Lo Se Ef gp gi am li dl ++ [(o, .inl (cJ, 1, .inr (.inl g)))]) (fun _ : Unit => wC cI cZ cO x a t b ck Ho T E Dm F S C la T1 E1 D1 F1 S1 C1 la1 Lo Se Ef gp gi am li dl ++ [(o, .inl (cJ, 1, .inr (.inl g)))]) 1 6 sz (nI 1) := by
  refine kEnterH (cc := cL_margin) (maxL := 5) (ret := some .int) (hh := [(0, 10, 13, 13)]) (by decide +kernel) rfl (Nat.le_of_ble_eq_true rfl) ?_
  intro p e s m below meth c args hx hb hr hml hts hown hlocks htab hK hN A hA9 Q hQ9 hP hD hsz hS hA hX hC ls hl
  have hl : lv_has ls 5 [(0, .ref (x 0)), (1, .int v), (2, .int w), (3, .ref o)] := hl
  obtain ⟨H, hH9⟩ : ∃ H, H = s.heap := ⟨_, rfl⟩
  rw [← hH9] at hP ⊢
  have hS : va_S A s.heap H [] := by rw [hH9]; exact va_S.rf
  refine lv_aload_n hx hb dL_margin_0 rfl (lv_at hl 3 rfl) ?_
  refine lv_iconst (v := nI 0) hx hb dL_margin_1 (by decide +kernel) ?_
  refine lv_aload_n hx hb dL_margin_2 rfl (lv_at hl 0 rfl) ?_
  refine lv_iload_n hx hb dL_margin_3 rfl (lv_at hl 1 rfl) ?_
  refine lv_iload_n hx hb dL_margin_4 rfl (lv_at hl 2 rfl) ?_
  refine kCallXP_i hP hD hS hA (vx_runV (As := [.int v, .int w]) (rest := [.int (nI 0), .ref o]) ⟨hx, hb, hml, hown, hts⟩ (c_X2_margin_bad l hst D cI cZ cO cJ x a t b ck Ho T E Dm F S C la T1 E1 D1 F1 S1 C1 la1 Lo Se Ef gp gi am li dl v w H.size h) (cwV (rm := rxX2_margin) 2 hts gL_margin_X2_margin rfl rfl rfl (by decide +kernel) ⟨Nat.le_of_ble_eq_true rfl, Nat.le_of_ble_eq_true rfl⟩) (kPreVXW hK hN hX (pfP hP) (pfD hD) hS (kfree (pfD hD) hS hA) (va_recv hK (pfP hP) (ci := 2) (q0 := 0) rfl rfl)) rfl rfl hl.1 rfl (lv_room (Nat.le_of_ble_eq_true rfl)) dL_margin_5 ⟨Nat.le_of_ble_eq_true rfl, Nat.le_of_ble_eq_true rfl⟩) (fun ce q9 H locs hP hD hS hce hcv hcl => ?_)
  refine vx_catch (name := "java/lang/IllegalArgumentException") hown [] ⟨0, 10, 13, 13⟩ [] (by rw [htab]; rfl) (fun z h => absurd h (List.not_mem_nil)) rfl (by decide) (hts (.classLink RL 13 "java/lang/IllegalArgumentException") (by decide +kernel)) (kXw.use xB_iae_ok hX.2.2.2.2.2.2.1 _ (by decide +kernel)) hce hcv hcl ?_
  refine lv_astore (lv' := [(4, .ref q9), (0, .ref (x 0)), (1, .int v), (2, .int w), (3, .ref o)]) hx hb dL_margin_13 hl (by decide) rfl (fun ls hl => ?_)
  refine lv_iconst (v := nI 1) hx hb dL_margin_15 (by decide +kernel) ?_
  subst hQ9
  subst hA9
  exact kRetH_i () hx hb hr hlocks hP hS dL_margin_16 rfl

