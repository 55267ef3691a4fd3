abbrev rmJ9_floorDiv_7cf53 : Room := { frames := 0, cells := 0, slots := 0, locals := 0 }
set_option maxHeartbeats 4000000 in
set_option maxRecDepth 100000 in
/-- Math.floorDiv -/
theorem c_J9_floorDiv_7cf53 (l : Launch) (D : va_G) (cI cZ cO cJ : ClassId) (x y : Int32) (sz : Nat) (hy : ¬ y = 0) : kMi l yJ9_floorDiv_7cf53 wsJ9_floorDiv_7cf53 rmJ9_floorDiv_7cf53 D (kT cI cZ cO cJ) [.int x, .int y] ([]) ([]) sz (mFd x y) := by
  refine kEnter (cc := cJ9_floorDiv_7cf53) (maxL := 3) (ret := some .int) (by decide +kernel) rfl (Nat.le_of_ble_eq_true rfl) ?_
  intro p e s m below meth c args hx hb hr hml hts hown hlocks hin hK hN A hA9 Q hQ9 hP hD hsz hS hA ls hl
  have hl : lv_has ls 3 [(0, .int x), (1, .int y)] := hl
  obtain ⟨H, hH9⟩ : ∃ H, H = s.heap := ⟨_, rfl⟩
  rw [← hH9] at hP ⊢
  have hS : va_S A s.heap H [] := by rw [hH9]; exact va_S.rf
  refine lv_iload_n hx hb dJ9_floorDiv_7cf53_0 rfl (lv_at hl 0 rfl) ?_
  refine lv_iload_n hx hb dJ9_floorDiv_7cf53_1 rfl (lv_at hl 1 rfl) ?_
  refine lv_idiv hx hb dJ9_floorDiv_7cf53_2 hy ?_
  refine lv_istore_n (lv' := [(2, .int (x / y)), (0, .int x), (1, .int y)]) hx hb dJ9_floorDiv_7cf53_3 rfl hl (by decide) rfl (fun ls hl => ?_)
  refine lv_iload_n hx hb dJ9_floorDiv_7cf53_4 rfl (lv_at hl 1 rfl) ?_
  refine lv_iload_n hx hb dJ9_floorDiv_7cf53_5 rfl (lv_at hl 2 rfl) ?_
  refine lv_ixor hx hb dJ9_floorDiv_7cf53_6 ?_
  refine lv_if_ge (tgt := 21) hx hb dJ9_floorDiv_7cf53_7 (by decide) (fun c1 => ?_) (fun c1 => ?_)
  · refine lv_iload_n hx hb dJ9_floorDiv_7cf53_21 rfl (lv_at hl 0 rfl) ?_
    subst hQ9
    subst hA9
    exact kRet_i hx hb hr hlocks hP hS dJ9_floorDiv_7cf53_22 (by unfold mFd; rw [if_pos c1])
  · refine lv_iload_n hx hb dJ9_floorDiv_7cf53_10 rfl (lv_at hl 0 rfl) ?_
    refine lv_iload_n hx hb dJ9_floorDiv_7cf53_11 rfl (lv_at hl 2 rfl) ?_
    refine lv_imul hx hb dJ9_floorDiv_7cf53_12 ?_
    refine lv_iload_n hx hb dJ9_floorDiv_7cf53_13 rfl (lv_at hl 1 rfl) ?_
    refine lv_icmp_eq (tgt := 21) hx hb dJ9_floorDiv_7cf53_14 (by decide) (fun c2 => ?_) (fun c2 => ?_)
    · refine lv_iload_n hx hb dJ9_floorDiv_7cf53_21 rfl (lv_at hl 0 rfl) ?_
      subst hQ9
      subst hA9
      exact kRet_i hx hb hr hlocks hP hS dJ9_floorDiv_7cf53_22 (by unfold mFd; rw [if_neg c1, if_pos c2])
    · refine lv_iload_n hx hb dJ9_floorDiv_7cf53_17 rfl (lv_at hl 0 rfl) ?_
      refine lv_iconst (v := nI 1) hx hb dJ9_floorDiv_7cf53_18 (by decide +kernel) ?_
      refine lv_isub hx hb dJ9_floorDiv_7cf53_19 ?_
      subst hQ9
      subst hA9
      exact kRet_i hx hb hr hlocks hP hS dJ9_floorDiv_7cf53_20 (by unfold mFd; rw [if_neg c1, if_neg c2]; rfl)

abbrev rmJ9_floorMod_7cf53 : Room := { frames := 0, cells := 0, slots := 0, locals := 0 }
set_option maxHeartbeats 4000000 in
set_option maxRecDepth 100000 in
/-- Math.floorMod -/
theorem c_J9_floorMod_7cf53 (l : Launch) (D : va_G) (cI cZ cO cJ : ClassId) (x y : Int32) (sz : Nat) (hy : ¬ y = 0) : kMi l yJ9_floorMod_7cf53 wsJ9_floorMod_7cf53 rmJ9_floorMod_7cf53 D (kT cI cZ cO cJ) [.int x, .int y] ([]) ([]) sz (mFm x y) := by
  refine kEnter (cc := cJ9_floorMod_7cf53) (maxL := 3) (ret := some .int) (by decide +kernel) rfl (Nat.le_of_ble_eq_true rfl) ?_
  intro p e s m below meth c args hx hb hr hml hts hown hlocks hin hK hN A hA9 Q hQ9 hP hD hsz hS hA ls hl
  have hl : lv_has ls 3 [(0, .int x), (1, .int y)] := hl
  obtain ⟨H, hH9⟩ : ∃ H, H = s.heap := ⟨_, rfl⟩
  rw [← hH9] at hP ⊢
  have hS : va_S A s.heap H [] := by rw [hH9]; exact va_S.rf
  refine lv_iload_n hx hb dJ9_floorMod_7cf53_0 rfl (lv_at hl 0 rfl) ?_
  refine lv_iload_n hx hb dJ9_floorMod_7cf53_1 rfl (lv_at hl 1 rfl) ?_
  refine lv_irem hx hb dJ9_floorMod_7cf53_2 hy ?_
  refine lv_istore_n (lv' := [(2, .int (x - x / y * y)), (0, .int x), (1, .int y)]) hx hb dJ9_floorMod_7cf53_3 rfl hl (by decide) rfl (fun ls hl => ?_)
  refine lv_iload_n hx hb dJ9_floorMod_7cf53_4 rfl (lv_at hl 1 rfl) ?_
  refine lv_iload_n hx hb dJ9_floorMod_7cf53_5 rfl (lv_at hl 2 rfl) ?_
  refine lv_ixor hx hb dJ9_floorMod_7cf53_6 ?_
  refine lv_if_ge (tgt := 18) hx hb dJ9_floorMod_7cf53_7 (by decide) (fun c1 => ?_) (fun c1 => ?_)
  · refine lv_iload_n hx hb dJ9_floorMod_7cf53_18 rfl (lv_at hl 0 rfl) ?_
    subst hQ9
    subst hA9
    exact kRet_i hx hb hr hlocks hP hS dJ9_floorMod_7cf53_19 (by unfold mFm; rw [if_pos c1])
  · refine lv_iload_n hx hb dJ9_floorMod_7cf53_10 rfl (lv_at hl 0 rfl) ?_
    refine lv_if_eq (tgt := 18) hx hb dJ9_floorMod_7cf53_11 (by decide) (fun c2 => ?_) (fun c2 => ?_)
    · refine lv_iload_n hx hb dJ9_floorMod_7cf53_18 rfl (lv_at hl 0 rfl) ?_
      subst hQ9
      subst hA9
      exact kRet_i hx hb hr hlocks hP hS dJ9_floorMod_7cf53_19 (by unfold mFm; rw [if_neg c1, if_pos c2])
    · refine lv_iload_n hx hb dJ9_floorMod_7cf53_14 rfl (lv_at hl 0 rfl) ?_
      refine lv_iload_n hx hb dJ9_floorMod_7cf53_15 rfl (lv_at hl 2 rfl) ?_
      refine lv_iadd hx hb dJ9_floorMod_7cf53_16 ?_
      subst hQ9
      subst hA9
      exact kRet_i hx hb hr hlocks hP hS dJ9_floorMod_7cf53_17 (by unfold mFm; rw [if_neg c1, if_neg c2])

abbrev rmX2_holdWithin : Room := { frames := 1, cells := 0, slots := 0, locals := 21 }
set_option maxHeartbeats 4000000 in
set_option maxRecDepth 100000 in
/-- holdWithin -/
theorem c_X2_holdWithin (l : Launch) (D : va_G) (cI cZ cO cJ : ClassId) (v lo hi : Int32) (sz : Nat) : kMi l yX2_holdWithin wsX2_holdWithin rmX2_holdWithin D (kT cI cZ cO cJ) [.int v, .int lo, .int hi] ([]) ([]) sz (mHold v lo hi) := by
  refine kEnter (cc := cX2_holdWithin) (maxL := 3) (ret := some .int) (by decide +kernel) rfl (Nat.le_of_ble_eq_true rfl) ?_
  intro p e s m below meth c args hx hb hr hml hts hown hlocks hin hK hN A hA9 Q hQ9 hP hD hsz hS hA ls hl
  have hl : lv_has ls 3 [(0, .int v), (1, .int lo), (2, .int hi)] := hl
  obtain ⟨H, hH9⟩ : ∃ H, H = s.heap := ⟨_, rfl⟩
  rw [← hH9] at hP ⊢
  have hS : va_S A s.heap H [] := by rw [hH9]; exact va_S.rf
  refine lv_iload_n hx hb dX2_holdWithin_0 rfl (lv_at hl 1 rfl) ?_
  refine lv_iload_n hx hb dX2_holdWithin_1 rfl (lv_at hl 2 rfl) ?_
  refine lv_iload_n hx hb dX2_holdWithin_2 rfl (lv_at hl 0 rfl) ?_
  refine va_mmin hx hb (by rw [hml]; exact hl.1.symm) hown (hts (.methodLink RX2 142 Lib.Math.min.name) (by decide +kernel)) (hts (.static Lib.Math.min.name) (by decide +kernel)) (hts (.initialized "java/lang/Math") (by decide +kernel)) (hts (.code Lib.Math.min.name Lib.Math.min.code 2 (some .int)) (by decide +kernel)) (Nat.le_of_ble_eq_true rfl) (Nat.le_of_ble_eq_true rfl) (Nat.zero_le _) (Nat.zero_le _) (x := hi) (y := v) dX2_holdWithin_3 ?_
  refine k_as (y := mMin hi v) rfl ?_
  refine va_mmax hx hb (by rw [hml]; exact hl.1.symm) hown (hts (.methodLink RX2 132 Lib.Math.max.name) (by decide +kernel)) (hts (.static Lib.Math.max.name) (by decide +kernel)) (hts (.initialized "java/lang/Math") (by decide +kernel)) (hts (.code Lib.Math.max.name Lib.Math.max.code 2 (some .int)) (by decide +kernel)) (Nat.le_of_ble_eq_true rfl) (Nat.le_of_ble_eq_true rfl) (Nat.zero_le _) (Nat.zero_le _) (x := lo) (y := mMin hi v) dX2_holdWithin_6 ?_
  refine k_as (y := mMax lo (mMin hi v)) rfl ?_
  subst hQ9
  subst hA9
  exact kRet_i hx hb hr hlocks hP hS dX2_holdWithin_9 rfl

abbrev rmX0_commandsAgo : Room := { frames := 1, cells := 0, slots := 0, locals := 22 }
set_option maxHeartbeats 4000000 in
set_option maxRecDepth 100000 in
/-- commandsAgo -/
theorem c_X0_commandsAgo (l : Launch) (D : va_G) (cI cZ cO cJ : ClassId) (a b : Nat → Nat) (T E Dm F S : Nat → Int32) (C : Nat → Nat → Int32) (la : Nat) (Lo Se : Nat → Int32) (Ef : Nat → Nat → Int32) (gp gi am li : Int32) (dl : Nat) (k : Nat) (sz : Nat) (h1 : la < 9) (h2 : k < 9) : kMr l yX0_commandsAgo wsX0_commandsAgo rmX0_commandsAgo D (kT cI cZ cO cJ) [.ref (a 0), .int (nI k)] (wH cI cZ cO a b T E Dm F S C la Lo Se Ef gp gi am li dl) (wH cI cZ cO a b T E Dm F S C la Lo Se Ef gp gi am li dl) sz (a (7 + (la + 9 - k) % 9)) := by
  refine kEnter (cc := cX0_commandsAgo) (maxL := 2) (ret := some (.array .int)) (by decide +kernel) rfl (Nat.le_of_ble_eq_true rfl) ?_
  intro p e s m below meth c args hx hb hr hml hts hown hlocks hin hK hN A hA9 Q hQ9 hP hD hsz hS hA ls hl
  have hl : lv_has ls 2 [(0, .ref (a 0)), (1, .int (nI k))] := hl
  have hi_X0 : ∀ w ∈ u_ws RX0 TX0 7, w ∈ wsX0_commandsAgo := by decide +kernel
  obtain ⟨H, hH9⟩ : ∃ H, H = s.heap := ⟨_, rfl⟩
  rw [← hH9] at hP ⊢
  have hS : va_S A s.heap H [] := by rw [hH9]; exact va_S.rf
  refine lv_aload_n hx hb dX0_commandsAgo_0 rfl (lv_at hl 0 rfl) ?_
  refine va_get (D := D) (ci := 0) (v := .ref (a 6)) (C := RX0) (T := TX0) (N := 7) hx hb hts hi_X0 hown hK hP 0 rfl rfl 5 (by decide) (hts (.fieldLink RX0 30 "Coldaisle$Hall" "commands" "[[I") (by decide +kernel)) (fun _ h9 => h9) rfl dX0_commandsAgo_1 ?_
  refine lv_aload_n hx hb dX0_commandsAgo_4 rfl (lv_at hl 0 rfl) ?_
  refine va_get (D := D) (ci := 0) (v := .int (nI la)) (C := RX0) (T := TX0) (N := 7) hx hb hts hi_X0 hown hK hP 0 rfl rfl 6 (by decide) (hts (.fieldLink RX0 33 "Coldaisle$Hall" "lastMinute" "I") (by decide +kernel)) (fun _ h9 => h9) rfl dX0_commandsAgo_5 ?_
  refine lv_iload_n hx hb dX0_commandsAgo_8 rfl (lv_at hl 1 rfl) ?_
  refine lv_isub hx hb dX0_commandsAgo_9 ?_
  refine lv_bipush (v := nI 9) hx hb dX0_commandsAgo_10 (by decide +kernel) ?_
  refine kCall_i (W0 := []) (W1 := []) hP hD hS hA [] rfl rfl (va_runS (As := [.int ((nI la) - (nI k)), .int (nI 9)]) (rest := [.ref (a 6)]) ⟨hx, hb, hml, hown, hts⟩ (c_J9_floorMod_7cf53 l D cI cZ cO cJ ((nI la) - (nI k)) (nI 9) H.size (by decide +kernel)) (va_cwS (rm := rmJ9_floorMod_7cf53) 2 hts gX0_commandsAgo_J9_floorMod_7cf53 rfl rfl rfl (by decide +kernel) ⟨Nat.le_of_ble_eq_true rfl, Nat.le_of_ble_eq_true rfl⟩) (kPreS hK hN hP hD [] rfl rfl) rfl rfl hl.1 rfl (lv_room (Nat.le_of_ble_eq_true rfl)) dX0_commandsAgo_12 ⟨Nat.zero_le _, Nat.zero_le _⟩) (fun H locs hP hD hS => ?_)
  have hP : va_P D vwCl (wH cI cZ cO a b T E Dm F S C la Lo Se Ef gp gi am li dl) H := hP
  have hD : va_D A (wH cI cZ cO a b T E Dm F S C la Lo Se Ef gp gi am li dl) := hD
  refine k_as (mAgo h1 h2) ?_
  refine k_aald hx hb hK hP 6 2 rfl rfl (i := (la + 9 - k) % 9) (by omega) (by decide) dX0_commandsAgo_15 ?_
  subst hQ9
  subst hA9
  exact kRet_r hx hb hr hlocks hP hS dX0_commandsAgo_16

abbrev rmX0_control : Room := { frames := 2, cells := 0, slots := 0, locals := 43 }
set_option maxHeartbeats 4000000 in
set_option maxRecDepth 100000 in
/-- control -/
theorem c_X0_control (l : Launch) (D : va_G) (cI cZ cO cJ : ClassId) (a b : Nat → Nat) (T E Dm F S : Nat → Int32) (C : Nat → Nat → Int32) (la : Nat) (Lo Se : Nat → Int32) (Ef : Nat → Nat → Int32) (gp gi am li : Int32) (dl : Nat) (z : Nat) (sz : Nat) (hz : z < 6) : kMi l yX0_control wsX0_control rmX0_control D (kT cI cZ cO cJ) [.ref (a 0), .ref (b 0), .int (nI z)] (wH cI cZ cO a b T E Dm F S C la Lo Se Ef gp gi am li dl) (wH cI cZ cO a b T (upd E z (mEr (T z) (E z) (Se z))) Dm F S C la Lo Se Ef gp gi am li dl) sz (mWa gp gi (T z) (Se z) (mEr (T z) (E z) (Se z))) := by
  refine kEnter (cc := cX0_control) (maxL := 7) (ret := some .int) (by decide +kernel) rfl (Nat.le_of_ble_eq_true rfl) ?_
  intro p e s m below meth c args hx hb hr hml hts hown hlocks hin hK hN A hA9 Q hQ9 hP hD hsz hS hA ls hl
  have hl : lv_has ls 7 [(0, .ref (a 0)), (1, .ref (b 0)), (2, .int (nI z))] := hl
  have hi_X0 : ∀ w ∈ u_ws RX0 TX0 7, w ∈ wsX0_control := by decide +kernel
  have hi_X1 : ∀ w ∈ u_ws RX1 TX1 8, w ∈ wsX0_control := by decide +kernel
  obtain ⟨H, hH9⟩ : ∃ H, H = s.heap := ⟨_, rfl⟩
  rw [← hH9] at hP ⊢
  have hS : va_S A s.heap H [] := by rw [hH9]; exact va_S.rf
  refine lv_aload_n hx hb dX0_control_0 rfl (lv_at hl 0 rfl) ?_
  refine va_get (D := D) (ci := 0) (v := .ref (a 1)) (C := RX0) (T := TX0) (N := 7) hx hb hts hi_X0 hown hK hP 0 rfl rfl 0 (by decide) (hts (.fieldLink RX0 9 "Coldaisle$Hall" "temperature" "[I") (by decide +kernel)) (fun _ h9 => h9) rfl dX0_control_1 ?_
  refine lv_iload_n hx hb dX0_control_4 rfl (lv_at hl 2 rfl) ?_
  refine k_iald hx hb hK hP 1 0 rfl rfl (i := z) (by omega) (by decide) dX0_control_5 ?_
  refine lv_aload_n hx hb dX0_control_6 rfl (lv_at hl 1 rfl) ?_
  refine va_get (D := D) (ci := 1) (v := .ref (b 2)) (C := RX1) (T := TX1) (N := 8) hx hb hts hi_X1 hown hK hP 7 rfl rfl 1 (by decide) (hts (.fieldLink RX0 67 "Coldaisle$Settings" "setpoint" "[I") (by decide +kernel)) (fun _ h9 => h9) rfl dX0_control_7 ?_
  refine lv_iload_n hx hb dX0_control_10 rfl (lv_at hl 2 rfl) ?_
  refine k_iald hx hb hK hP 9 0 rfl rfl (i := z) (by omega) (by decide) dX0_control_11 ?_
  refine lv_isub hx hb dX0_control_12 ?_
  refine lv_istore_n (lv' := [(3, .int ((T z) - (Se z))), (0, .ref (a 0)), (1, .ref (b 0)), (2, .int (nI z))]) hx hb dX0_control_13 rfl hl (by decide) rfl (fun ls hl => ?_)
  refine lv_aload_n hx hb dX0_control_14 rfl (lv_at hl 1 rfl) ?_
  refine va_get (D := D) (ci := 0) (v := .ref (a 2)) (C := RX0) (T := TX0) (N := 7) hx hb hts hi_X0 hown hK hP 0 rfl rfl 1 (by decide) (hts (.fieldLink RX0 15 "Coldaisle$Hall" "errors" "[I") (by decide +kernel)) (fun _ h9 => h9) rfl dX0_control_15 ?_
  refine lv_iload_n hx hb dX0_control_18 rfl (lv_at hl 3 rfl) ?_
  refine k_iald hx hb hK hP 2 0 rfl rfl (i := z) (by omega) (by decide) dX0_control_19 ?_
  refine lv_iload_n hx hb dX0_control_20 rfl (lv_at hl 0 rfl) ?_
  refine lv_iadd hx hb dX0_control_21 ?_
  refine lv_sipush (v := (-20000)) hx hb dX0_control_22 (by decide +kernel) ?_
  refine lv_sipush (v := nI 20000) hx hb dX0_control_25 (by decide +kernel) ?_
  refine kCall_i (W0 := []) (W1 := []) hP hD hS hA [] rfl rfl (va_runSN (As := [.int ((E z) + ((T z) - (Se z))), .int (-20000), .int (nI 20000)]) (rest := []) ⟨hx, hb, hml, hown, hts⟩ (c_X2_holdWithin l D cI cZ cO cJ ((E z) + ((T z) - (Se z))) (-20000) (nI 20000) H.size) ⟨va_cnB (rm := rmX2_holdWithin) 3 hts gX0_control_X2_holdWithin_n72 rfl rfl rfl hN (hts (.initialized RX2) (by decide +kernel)) (by decide +kernel) ⟨Nat.le_of_ble_eq_true rfl, Nat.le_of_ble_eq_true rfl⟩, hts (.static yX2_holdWithin) (by decide +kernel), trivial⟩ (kPreS hK hN hP hD [] rfl rfl) rfl rfl hl.1 rfl (lv_room (Nat.le_of_ble_eq_true rfl)) dX0_control_28 ⟨Nat.zero_le _, Nat.zero_le _⟩) (fun H locs hP hD hS => ?_)
  have hP : va_P D vwCl (wH cI cZ cO a b T E Dm F S C la Lo Se Ef gp gi am li dl) H := hP
  have hD : va_D A (wH cI cZ cO a b T E Dm F S C la Lo Se Ef gp gi am li dl) := hD
  refine lv_istore (lv' := [(4, .int (mHold ((E z) + ((T z) - (Se z))) (-20000) (nI 20000))), (3, .int ((T z) - (Se z))), (0, .ref (a 0)), (1, .ref (b 0)), (2, .int (nI z))]) hx hb dX0_control_31 hl (by decide) rfl (fun ls hl => ?_)
  refine lv_aload_n hx hb dX0_control_33 rfl (lv_at hl 2 rfl) ?_
  refine va_get (D := D) (ci := 0) (v := .ref (a 2)) (C := RX0) (T := TX0) (N := 7) hx hb hts hi_X0 hown hK hP 0 rfl rfl 1 (by decide) (hts (.fieldLink RX0 15 "Coldaisle$Hall" "errors" "[I") (by decide +kernel)) (fun _ h9 => h9) rfl dX0_control_34 ?_
  refine lv_iload_n hx hb dX0_control_37 rfl (lv_at hl 4 rfl) ?_
  refine lv_iload hx hb dX0_control_38 (lv_at hl 0 rfl) ?_
  refine k_iast hx hb hK hP hD hS 2 0 rfl rfl (i := z) (x := mHold ((E z) + ((T z) - (Se z))) (-20000) (nI 20000)) (by omega) (by decide) dX0_control_40 (fun H locs hP hD hS => ?_)
  have hP : va_P D vwCl (wH cI cZ cO a b T (upd E z (mHold ((E z) + ((T z) - (Se z))) (-20000) (nI 20000))) Dm F S C la Lo Se Ef gp gi am li dl) H := hP
  have hD : va_D A (wH cI cZ cO a b T (upd E z (mHold ((E z) + ((T z) - (Se z))) (-20000) (nI 20000))) Dm F S C la Lo Se Ef gp gi am li dl) := hD
  refine lv_aload_n hx hb dX0_control_41 rfl (lv_at hl 3 rfl) ?_
  refine va_get (D := D) (ci := 1) (v := .int gi) (C := RX1) (T := TX1) (N := 8) hx hb hts hi_X1 hown hK hP 7 rfl rfl 4 (by decide) (hts (.fieldLink RX0 76 "Coldaisle$Settings" "integral" "I") (by decide +kernel)) (fun _ h9 => h9) rfl dX0_control_42 ?_
  refine lv_iload hx hb dX0_control_45 (lv_at hl 0 rfl) ?_
  refine lv_imul hx hb dX0_control_47 ?_
  refine lv_bipush (v := nI 100) hx hb dX0_control_48 (by decide +kernel) ?_
  refine kCall_i (W0 := []) (W1 := []) hP hD hS hA [] rfl rfl (va_runS (As := [.int (gi * (mHold ((E z) + ((T z) - (Se z))) (-20000) (nI 20000))), .int (nI 100)]) (rest := []) ⟨hx, hb, hml, hown, hts⟩ (c_J9_floorDiv_7cf53 l D cI cZ cO cJ (gi * (mHold ((E z) + ((T z) - (Se z))) (-20000) (nI 20000))) (nI 100) H.size (by decide +kernel)) (va_cwS (rm := rmJ9_floorDiv_7cf53) 2 hts gX0_control_J9_floorDiv_7cf53 rfl rfl rfl (by decide +kernel) ⟨Nat.le_of_ble_eq_true rfl, Nat.le_of_ble_eq_true rfl⟩) (kPreS hK hN hP hD [] rfl rfl) rfl rfl hl.1 rfl (lv_room (Nat.le_of_ble_eq_true rfl)) dX0_control_50 ⟨Nat.zero_le _, Nat.zero_le _⟩) (fun H locs hP hD hS => ?_)
  have hP : va_P D vwCl (wH cI cZ cO a b T (upd E z (mHold ((E z) + ((T z) - (Se z))) (-20000) (nI 20000))) Dm F S C la Lo Se Ef gp gi am li dl) H := hP
  have hD : va_D A (wH cI cZ cO a b T (upd E z (mHold ((E z) + ((T z) - (Se z))) (-20000) (nI 20000))) Dm F S C la Lo Se Ef gp gi am li dl) := hD
  refine lv_istore (lv' := [(5, .int (mFd (gi * (mHold ((E z) + ((T z) - (Se z))) (-20000) (nI 20000))) (nI 100))), (4, .int (mHold ((E z) + ((T z) - (Se z))) (-20000) (nI 20000))), (3, .int ((T z) - (Se z))), (0, .ref (a 0)), (1, .ref (b 0)), (2, .int (nI z))]) hx hb dX0_control_53 hl (by decide) rfl (fun ls hl => ?_)
  refine lv_aload_n hx hb dX0_control_55 rfl (lv_at hl 4 rfl) ?_
  refine va_get (D := D) (ci := 1) (v := .int gp) (C := RX1) (T := TX1) (N := 8) hx hb hts hi_X1 hown hK hP 7 rfl rfl 3 (by decide) (hts (.fieldLink RX0 82 "Coldaisle$Settings" "proportional" "I") (by decide +kernel)) (fun _ h9 => h9) rfl dX0_control_56 ?_
  refine lv_iload_n hx hb dX0_control_59 rfl (lv_at hl 2 rfl) ?_
  refine lv_imul hx hb dX0_control_60 ?_
  refine lv_iload hx hb dX0_control_61 (lv_at hl 0 rfl) ?_
  refine lv_iadd hx hb dX0_control_63 ?_
  refine lv_bipush (v := nI 100) hx hb dX0_control_64 (by decide +kernel) ?_
  refine kCall_i (W0 := []) (W1 := []) hP hD hS hA [] rfl rfl (va_runS (As := [.int ((gp * ((T z) - (Se z))) + (mFd (gi * (mHold ((E z) + ((T z) - (Se z))) (-20000) (nI 20000))) (nI 100))), .int (nI 100)]) (rest := []) ⟨hx, hb, hml, hown, hts⟩ (c_J9_floorDiv_7cf53 l D cI cZ cO cJ ((gp * ((T z) - (Se z))) + (mFd (gi * (mHold ((E z) + ((T z) - (Se z))) (-20000) (nI 20000))) (nI 100))) (nI 100) H.size (by decide +kernel)) (va_cwS (rm := rmJ9_floorDiv_7cf53) 2 hts gX0_control_J9_floorDiv_7cf53 rfl rfl rfl (by decide +kernel) ⟨Nat.le_of_ble_eq_true rfl, Nat.le_of_ble_eq_true rfl⟩) (kPreS hK hN hP hD [] rfl rfl) rfl rfl hl.1 rfl (lv_room (Nat.le_of_ble_eq_true rfl)) dX0_control_66 ⟨Nat.zero_le _, Nat.zero_le _⟩) (fun H locs hP hD hS => ?_)
  have hP : va_P D vwCl (wH cI cZ cO a b T (upd E z (mHold ((E z) + ((T z) - (Se z))) (-20000) (nI 20000))) Dm F S C la Lo Se Ef gp gi am li dl) H := hP
  have hD : va_D A (wH cI cZ cO a b T (upd E z (mHold ((E z) + ((T z) - (Se z))) (-20000) (nI 20000))) Dm F S C la Lo Se Ef gp gi am li dl) := hD
  refine lv_istore (lv' := [(6, .int (mFd ((gp * ((T z) - (Se z))) + (mFd (gi * (mHold ((E z) + ((T z) - (Se z))) (-20000) (nI 20000))) (nI 100))) (nI 100))), (5, .int (mFd (gi * (mHold ((E z) + ((T z) - (Se z))) (-20000) (nI 20000))) (nI 100))), (4, .int (mHold ((E z) + ((T z) - (Se z))) (-20000) (nI 20000))), (3, .int ((T z) - (Se z))), (0, .ref (a 0)), (1, .ref (b 0)), (2, .int (nI z))]) hx hb dX0_control_69 hl (by decide) rfl (fun ls hl => ?_)
  refine lv_iload hx hb dX0_control_71 (lv_at hl 0 rfl) ?_
  refine lv_iconst (v := nI 0) hx hb dX0_control_73 (by decide +kernel) ?_
  refine lv_bipush (v := nI 100) hx hb dX0_control_74 (by decide +kernel) ?_
  refine kCall_i (W0 := []) (W1 := []) hP hD hS hA [] rfl rfl (va_runSN (As := [.int (mFd ((gp * ((T z) - (Se z))) + (mFd (gi * (mHold ((E z) + ((T z) - (Se z))) (-20000) (nI 20000))) (nI 100))) (nI 100)), .int (nI 0), .int (nI 100)]) (rest := []) ⟨hx, hb, hml, hown, hts⟩ (c_X2_holdWithin l D cI cZ cO cJ (mFd ((gp * ((T z) - (Se z))) + (mFd (gi * (mHold ((E z) + ((T z) - (Se z))) (-20000) (nI 20000))) (nI 100))) (nI 100)) (nI 0) (nI 100) H.size) ⟨va_cnB (rm := rmX2_holdWithin) 3 hts gX0_control_X2_holdWithin_n72 rfl rfl rfl hN (hts (.initialized RX2) (by decide +kernel)) (by decide +kernel) ⟨Nat.le_of_ble_eq_true rfl, Nat.le_of_ble_eq_true rfl⟩, hts (.static yX2_holdWithin) (by decide +kernel), trivial⟩ (kPreS hK hN hP hD [] rfl rfl) rfl rfl hl.1 rfl (lv_room (Nat.le_of_ble_eq_true rfl)) dX0_control_76 ⟨Nat.zero_le _, Nat.zero_le _⟩) (fun H locs hP hD hS => ?_)
  have hP : va_P D vwCl (wH cI cZ cO a b T (upd E z (mHold ((E z) + ((T z) - (Se z))) (-20000) (nI 20000))) Dm F S C la Lo Se Ef gp gi am li dl) H := hP
  have hD : va_D A (wH cI cZ cO a b T (upd E z (mHold ((E z) + ((T z) - (Se z))) (-20000) (nI 20000))) Dm F S C la Lo Se Ef gp gi am li dl) := hD
  subst hQ9
  subst hA9
  exact kRet_i hx hb hr hlocks hP hS dX0_control_79 rfl

abbrev rmX0_raiseForFailures : Room := { frames := 1, cells := 0, slots := 0, locals := 22 }
set_option maxHeartbeats 4000000 in
set_option maxRecDepth 100000 in
/-- raiseForFailures -/
theorem c_X0_raiseForFailures (l : Launch) (D : va_G) (cI cZ cO cJ : ClassId) (a b : Nat → Nat) (T E Dm F S : Nat → Int32) (C : Nat → Nat → Int32) (la : Nat) (Lo Se : Nat → Int32) (Ef : Nat → Nat → Int32) (gp gi am li : Int32) (dl : Nat) (z0 : Nat) (wv : Int32) (sz : Nat) (hz0 : z0 < 6) : kMi l yX0_raiseForFailures wsX0_raiseForFailures rmX0_raiseForFailures D (kT cI cZ cO cJ) [.ref (a 0), .ref (b 0), .int (nI z0), .int wv] (wH cI cZ cO a b T E Dm F S C la Lo Se Ef gp gi am li dl) (wH cI cZ cO a b T E Dm F S C la Lo Se Ef gp gi am li dl) sz (mRa F (fun f => Ef f z0) wv) := by
  refine kEnter (cc := cX0_raiseForFailures) (maxL := 8) (ret := some .int) (by decide +kernel) rfl (Nat.le_of_ble_eq_true rfl) ?_
  intro p e s m below meth c args hx hb hr hml hts hown hlocks hin hK hN A hA9 Q hQ9 hP hD hsz hS hA ls hl
  have hl : lv_has ls 8 [(0, .ref (a 0)), (1, .ref (b 0)), (2, .int (nI z0)), (3, .int wv)] := hl
  have hi_X0 : ∀ w ∈ u_ws RX0 TX0 7, w ∈ wsX0_raiseForFailures := by decide +kernel
  have hi_X1 : ∀ w ∈ u_ws RX1 TX1 8, w ∈ wsX0_raiseForFailures := by decide +kernel
  obtain ⟨H, hH9⟩ : ∃ H, H = s.heap := ⟨_, rfl⟩
  rw [← hH9] at hP ⊢
  have hS : va_S A s.heap H [] := by rw [hH9]; exact va_S.rf
  refine lv_iconst (v := nI 0) hx hb dX0_raiseForFailures_0 (by decide +kernel) ?_
  refine lv_istore (lv' := [(4, .int (nI 0)), (0, .ref (a 0)), (1, .ref (b 0)), (2, .int (nI z0)), (3, .int wv)]) hx hb dX0_raiseForFailures_1 hl (by decide) rfl (fun ls hl => ?_)
  refine lv_iconst (v := nI 0) hx hb dX0_raiseForFailures_3 (by decide +kernel) ?_
  refine lv_istore (lv' := [(5, .int (nI 0)), (4, .int (nI 0)), (0, .ref (a 0)), (1, .ref (b 0)), (2, .int (nI z0)), (3, .int wv)]) hx hb dX0_raiseForFailures_4 hl (by decide) rfl (fun ls hl => ?_)
  refine lv_iconst (v := nI 0) hx hb dX0_raiseForFailures_6 (by decide +kernel) ?_
  refine lv_istore (lv' := [(6, .int (nI 0)), (5, .int (nI 0)), (4, .int (nI 0)), (0, .ref (a 0)), (1, .ref (b 0)), (2, .int (nI z0)), (3, .int wv)]) hx hb dX0_raiseForFailures_7 hl (by decide) rfl (fun ls hl => ?_)
  have lp : ∀ (n z : Nat), z + n = 8 → ∀ (H : Heap) (locs : List Loc), va_P D vwCl (wH cI cZ cO a b T E Dm F S C la Lo Se Ef gp gi am li dl) H → va_D A (wH cI cZ cO a b T E Dm F S C la Lo Se Ef gp gi am li dl) → va_S A s.heap H locs → ∀ ls : Array Slot, lv_has ls 8 [(0, .ref (a 0)), (1, .ref (b 0)), (2, .int (nI z0)), (3, .int wv), (4, .int (mSum (fun f => Ef f z0) z)), (5, .int (mRun F (fun f => Ef f z0) z)), (6, .int (nI z))] → W p l e rmX0_raiseForFailures s m args below meth c H locs 0 0 Q (F0 m 9 ls []) := by
    intro n
    induction n with
    | zero =>
      intro z hz H locs hP hD hS ls hl
      have hz9 : z = 8 := by omega
      subst hz9
      refine lv_iload hx hb dX0_raiseForFailures_9 (lv_at hl 6 rfl) ?_
      refine lv_bipush (v := nI 8) hx hb dX0_raiseForFailures_11 (by decide +kernel) ?_
      refine lv_icmp_ge (tgt := 57) hx hb dX0_raiseForFailures_13 (by decide) (fun _ => ?_) (fun c9 => absurd (nI_le (Nat.le_refl 8) (by decide)) c9)
      refine lv_iload hx hb dX0_raiseForFailures_57 (lv_at hl 5 rfl) ?_
      refine lv_iload hx hb dX0_raiseForFailures_59 (lv_at hl 4 rfl) ?_
      refine lv_icmp_ne (tgt := 66) hx hb dX0_raiseForFailures_61 (by decide) (fun c1 => ?_) (fun c1 => ?_)
      · refine lv_iload hx hb dX0_raiseForFailures_66 (lv_at hl 5 rfl) ?_
        refine lv_if_ne (tgt := 74) hx hb dX0_raiseForFailures_68 (by decide) (fun c2 => ?_) (fun c2 => ?_)
        · refine lv_bipush (v := nI 100) hx hb dX0_raiseForFailures_74 (by decide +kernel) ?_
          refine lv_iload_n hx hb dX0_raiseForFailures_76 rfl (lv_at hl 3 rfl) ?_
          refine lv_iload hx hb dX0_raiseForFailures_77 (lv_at hl 4 rfl) ?_
          refine lv_imul hx hb dX0_raiseForFailures_79 ?_
          refine lv_iload hx hb dX0_raiseForFailures_80 (lv_at hl 5 rfl) ?_
          refine kCall_i (W0 := []) (W1 := []) hP hD hS hA [] rfl rfl (va_runS (As := [.int (wv * (mSum (fun f => Ef f z0) 8)), .int (mRun F (fun f => Ef f z0) 8)]) (rest := [.int (nI 100)]) ⟨hx, hb, hml, hown, hts⟩ (c_J9_floorDiv_7cf53 l D cI cZ cO cJ (wv * (mSum (fun f => Ef f z0) 8)) (mRun F (fun f => Ef f z0) 8) H.size c2) (va_cwS (rm := rmJ9_floorDiv_7cf53) 2 hts gX0_raiseForFailures_J9_floorDiv_7cf53 rfl rfl rfl (by decide +kernel) ⟨Nat.le_of_ble_eq_true rfl, Nat.le_of_ble_eq_true rfl⟩) (kPreS hK hN hP hD [] rfl rfl) rfl rfl hl.1 rfl (lv_room (Nat.le_of_ble_eq_true rfl)) dX0_raiseForFailures_82 ⟨Nat.zero_le _, Nat.zero_le _⟩) (fun H locs hP hD hS => ?_)
          have hP : va_P D vwCl (wH cI cZ cO a b T E Dm F S C la Lo Se Ef gp gi am li dl) H := hP
          have hD : va_D A (wH cI cZ cO a b T E Dm F S C la Lo Se Ef gp gi am li dl) := hD
          refine va_mmin hx hb (by rw [hml]; exact hl.1.symm) hown (hts (.methodLink RX0 88 Lib.Math.min.name) (by decide +kernel)) (hts (.static Lib.Math.min.name) (by decide +kernel)) (hts (.initialized "java/lang/Math") (by decide +kernel)) (hts (.code Lib.Math.min.name Lib.Math.min.code 2 (some .int)) (by decide +kernel)) (Nat.le_of_ble_eq_true rfl) (Nat.le_of_ble_eq_true rfl) (Nat.zero_le _) (Nat.zero_le _) (x := nI 100) (y := mFd (wv * (mSum (fun f => Ef f z0) 8)) (mRun F (fun f => Ef f z0) 8)) dX0_raiseForFailures_85 ?_
          refine k_as (y := mMin (nI 100) (mFd (wv * (mSum (fun f => Ef f z0) 8)) (mRun F (fun f => Ef f z0) 8))) rfl ?_
          subst hQ9
          subst hA9
          exact kRet_i hx hb hr hlocks hP hS dX0_raiseForFailures_88 (by unfold mRa; rw [if_neg c1, if_neg c2])
        · refine lv_bipush (v := nI 100) hx hb dX0_raiseForFailures_71 (by decide +kernel) ?_
          subst hQ9
          subst hA9
          exact kRet_i hx hb hr hlocks hP hS dX0_raiseForFailures_73 (by unfold mRa; rw [if_neg c1, if_pos c2])
      · refine lv_iload_n hx hb dX0_raiseForFailures_64 rfl (lv_at hl 3 rfl) ?_
        subst hQ9
        subst hA9
        exact kRet_i hx hb hr hlocks hP hS dX0_raiseForFailures_65 (by unfold mRa; rw [if_pos c1])
    | succ n ih =>
      intro z hz H locs hP hD hS ls hl
      have hzb : z < 8 := by omega
      refine lv_iload hx hb dX0_raiseForFailures_9 (lv_at hl 6 rfl) ?_
      refine lv_bipush (v := nI 8) hx hb dX0_raiseForFailures_11 (by decide +kernel) ?_
      refine lv_icmp_ge (tgt := 57) hx hb dX0_raiseForFailures_13 (by decide) (fun c9 => absurd c9 (nI_ge hzb (by decide))) (fun _ => ?_)
      refine lv_aload_n hx hb dX0_raiseForFailures_16 rfl (lv_at hl 1 rfl) ?_
      refine va_get (D := D) (ci := 1) (v := .ref (b 3)) (C := RX1) (T := TX1) (N := 8) hx hb hts hi_X1 hown hK hP 7 rfl rfl 2 (by decide) (hts (.fieldLink RX0 85 "Coldaisle$Settings" "effect" "[[I") (by decide +kernel)) (fun _ h9 => h9) rfl dX0_raiseForFailures_17 ?_
      refine lv_iload hx hb dX0_raiseForFailures_20 (lv_at hl 6 rfl) ?_
      refine k_aald hx hb hK hP 10 2 rfl rfl (i := z) (by omega) (by decide) dX0_raiseForFailures_22 ?_
      refine lv_iload_n hx hb dX0_raiseForFailures_23 rfl (lv_at hl 2 rfl) ?_
      refine k_iald hx hb hK hP _ 0 (wH_eff (j := z) (by omega)) rfl (i := z0) (by omega) (by decide) dX0_raiseForFailures_24 ?_
      refine lv_istore (lv' := [(7, .int ((Ef z) z0)), (0, .ref (a 0)), (1, .ref (b 0)), (2, .int (nI z0)), (3, .int wv), (4, .int (mSum (fun f => Ef f z0) z)), (5, .int (mRun F (fun f => Ef f z0) z)), (6, .int (nI z))]) hx hb dX0_raiseForFailures_25 hl (by decide) rfl (fun ls hl => ?_)
      refine lv_iload hx hb dX0_raiseForFailures_27 (lv_at hl 5 rfl) ?_
      refine lv_iload hx hb dX0_raiseForFailures_29 (lv_at hl 0 rfl) ?_
      refine lv_iadd hx hb dX0_raiseForFailures_31 ?_
      refine lv_istore (lv' := [(4, .int ((mSum (fun f => Ef f z0) z) + ((Ef z) z0))), (7, .int ((Ef z) z0)), (0, .ref (a 0)), (1, .ref (b 0)), (2, .int (nI z0)), (3, .int wv), (5, .int (mRun F (fun f => Ef f z0) z)), (6, .int (nI z))]) hx hb dX0_raiseForFailures_32 hl (by decide) rfl (fun ls hl => ?_)
      refine lv_aload_n hx hb dX0_raiseForFailures_34 rfl (lv_at hl 2 rfl) ?_
      refine va_get (D := D) (ci := 0) (v := .ref (a 4)) (C := RX0) (T := TX0) (N := 7) hx hb hts hi_X0 hown hK hP 0 rfl rfl 3 (by decide) (hts (.fieldLink RX0 21 "Coldaisle$Hall" "failed" "[Z") (by decide +kernel)) (fun _ h9 => h9) rfl dX0_raiseForFailures_35 ?_
      refine lv_iload hx hb dX0_raiseForFailures_38 (lv_at hl 7 rfl) ?_
      refine k_zald hx hb hK hP 4 1 rfl rfl (i := z) (by omega) (by decide) dX0_raiseForFailures_40 ?_
      refine lv_if_ne (tgt := 51) hx hb dX0_raiseForFailures_41 (by decide) (fun c1 => ?_) (fun c1 => ?_)
      · refine lv_iinc (v := nI (z + 1)) (lv' := [(6, .int (nI (z + 1))), (4, .int ((mSum (fun f => Ef f z0) z) + ((Ef z) z0))), (7, .int ((Ef z) z0)), (0, .ref (a 0)), (1, .ref (b 0)), (2, .int (nI z0)), (3, .int wv), (5, .int (mRun F (fun f => Ef f z0) z))]) hx hb dX0_raiseForFailures_51 hl (k := 7) rfl (k_inc _) (by decide) rfl (fun ls hl => ?_)
        refine lv_goto (tgt := 9) hx hb dX0_raiseForFailures_54 (by decide) ?_
        exact ih (z + 1) (by omega) H locs hP hD hS ls (by rw [mRun_f F (fun f => Ef f z0) z c1]; exact (lv_sub hl [3, 4, 5, 6, 1, 7, 0] rfl))
      · refine lv_iload hx hb dX0_raiseForFailures_44 (lv_at hl 6 rfl) ?_
        refine lv_iload hx hb dX0_raiseForFailures_46 (lv_at hl 1 rfl) ?_
        refine lv_iadd hx hb dX0_raiseForFailures_48 ?_
        refine lv_istore (lv' := [(5, .int ((mRun F (fun f => Ef f z0) z) + ((Ef z) z0))), (4, .int ((mSum (fun f => Ef f z0) z) + ((Ef z) z0))), (7, .int ((Ef z) z0)), (0, .ref (a 0)), (1, .ref (b 0)), (2, .int (nI z0)), (3, .int wv), (6, .int (nI z))]) hx hb dX0_raiseForFailures_49 hl (by decide) rfl (fun ls hl => ?_)
        refine lv_iinc (v := nI (z + 1)) (lv' := [(6, .int (nI (z + 1))), (5, .int ((mRun F (fun f => Ef f z0) z) + ((Ef z) z0))), (4, .int ((mSum (fun f => Ef f z0) z) + ((Ef z) z0))), (7, .int ((Ef z) z0)), (0, .ref (a 0)), (1, .ref (b 0)), (2, .int (nI z0)), (3, .int wv)]) hx hb dX0_raiseForFailures_51 hl (k := 7) rfl (k_inc _) (by decide) rfl (fun ls hl => ?_)
        refine lv_goto (tgt := 9) hx hb dX0_raiseForFailures_54 (by decide) ?_
        exact ih (z + 1) (by omega) H locs hP hD hS ls (by rw [mRun_t F (fun f => Ef f z0) z c1]; exact (lv_sub hl [4, 5, 6, 7, 2, 1, 0] rfl))
  exact lp 8 0 rfl H [] hP hD hS ls (lv_sub hl [3, 4, 5, 6, 2, 1, 0] rfl)

abbrev rmX0_greatestDemand : Room := { frames := 1, cells := 0, slots := 0, locals := 21 }
set_option maxHeartbeats 4000000 in
set_option maxRecDepth 100000 in
/-- greatestDemand -/
theorem c_X0_greatestDemand (l : Launch) (D : va_G) (cI cZ cO cJ : ClassId) (a b : Nat → Nat) (T E Dm F S : Nat → Int32) (C : Nat → Nat → Int32) (la : Nat) (Lo Se : Nat → Int32) (Ef : Nat → Nat → Int32) (gp gi am li : Int32) (dl : Nat) (f0 : Nat) (sz : Nat) (hf0 : f0 < 8) : kMi l yX0_greatestDemand wsX0_greatestDemand rmX0_greatestDemand D (kT cI cZ cO cJ) [.ref (a 0), .ref (b (4 + f0))] (wH cI cZ cO a b T E Dm F S C la Lo Se Ef gp gi am li dl) (wH cI cZ cO a b T E Dm F S C la Lo Se Ef gp gi am li dl) sz (mGd (Ef f0) Dm 6) := by
  refine kEnter (cc := cX0_greatestDemand) (maxL := 4) (ret := some .int) (by decide +kernel) rfl (Nat.le_of_ble_eq_true rfl) ?_
  intro p e s m below meth c args hx hb hr hml hts hown hlocks hin hK hN A hA9 Q hQ9 hP hD hsz hS hA ls hl
  have hl : lv_has ls 4 [(0, .ref (a 0)), (1, .ref (b (4 + f0)))] := hl
  have hi_X0 : ∀ w ∈ u_ws RX0 TX0 7, w ∈ wsX0_greatestDemand := by decide +kernel
  obtain ⟨H, hH9⟩ : ∃ H, H = s.heap := ⟨_, rfl⟩
  rw [← hH9] at hP ⊢
  have hS : va_S A s.heap H [] := by rw [hH9]; exact va_S.rf
  refine lv_iconst (v := nI 0) hx hb dX0_greatestDemand_0 (by decide +kernel) ?_
  refine lv_istore_n (lv' := [(2, .int (nI 0)), (0, .ref (a 0)), (1, .ref (b (4 + f0)))]) hx hb dX0_greatestDemand_1 rfl hl (by decide) rfl (fun ls hl => ?_)
  refine lv_iconst (v := nI 0) hx hb dX0_greatestDemand_2 (by decide +kernel) ?_
  refine lv_istore_n (lv' := [(3, .int (nI 0)), (2, .int (nI 0)), (0, .ref (a 0)), (1, .ref (b (4 + f0)))]) hx hb dX0_greatestDemand_3 rfl hl (by decide) rfl (fun ls hl => ?_)
  have lp : ∀ (n z : Nat), z + n = 6 → ∀ (H : Heap) (locs : List Loc), va_P D vwCl (wH cI cZ cO a b T E Dm F S C la Lo Se Ef gp gi am li dl) H → va_D A (wH cI cZ cO a b T E Dm F S C la Lo Se Ef gp gi am li dl) → va_S A s.heap H locs → ∀ ls : Array Slot, lv_has ls 4 [(0, .ref (a 0)), (1, .ref (b (4 + f0))), (2, .int (mGd (Ef f0) Dm z)), (3, .int (nI z))] → W p l e rmX0_greatestDemand s m args below meth c H locs 0 0 Q (F0 m 4 ls []) := by
    intro n
    induction n with
    | zero =>
      intro z hz H locs hP hD hS ls hl
      have hz9 : z = 6 := by omega
      subst hz9
      refine lv_iload_n hx hb dX0_greatestDemand_4 rfl (lv_at hl 3 rfl) ?_
      refine lv_bipush (v := nI 6) hx hb dX0_greatestDemand_5 (by decide +kernel) ?_
      refine lv_icmp_ge (tgt := 33) hx hb dX0_greatestDemand_7 (by decide) (fun _ => ?_) (fun c9 => absurd (nI_le (Nat.le_refl 6) (by decide)) c9)
      refine lv_iload_n hx hb dX0_greatestDemand_33 rfl (lv_at hl 2 rfl) ?_
      subst hQ9
      subst hA9
      exact kRet_i hx hb hr hlocks hP hS dX0_greatestDemand_34 rfl
    | succ n ih =>
      intro z hz H locs hP hD hS ls hl
      have hzb : z < 6 := by omega
      refine lv_iload_n hx hb dX0_greatestDemand_4 rfl (lv_at hl 3 rfl) ?_
      refine lv_bipush (v := nI 6) hx hb dX0_greatestDemand_5 (by decide +kernel) ?_
      refine lv_icmp_ge (tgt := 33) hx hb dX0_greatestDemand_7 (by decide) (fun c9 => absurd c9 (nI_ge hzb (by decide))) (fun _ => ?_)
      refine lv_aload_n hx hb dX0_greatestDemand_10 rfl (lv_at hl 1 rfl) ?_
      refine lv_iload_n hx hb dX0_greatestDemand_11 rfl (lv_at hl 3 rfl) ?_
      refine k_iald hx hb hK hP _ 0 (wH_eff (j := f0) (by omega)) rfl (i := z) (by omega) (by decide) dX0_greatestDemand_12 ?_
      refine lv_if_le (tgt := 27) hx hb dX0_greatestDemand_13 (by decide) (fun c1 => ?_) (fun c1 => ?_)
      · refine lv_iinc (v := nI (z + 1)) (lv' := [(3, .int (nI (z + 1))), (0, .ref (a 0)), (1, .ref (b (4 + f0))), (2, .int (mGd (Ef f0) Dm z))]) hx hb dX0_greatestDemand_27 hl (k := 3) rfl (k_inc _) (by decide) rfl (fun ls hl => ?_)
        refine lv_goto (tgt := 4) hx hb dX0_greatestDemand_30 (by decide) ?_
        exact ih (z + 1) (by omega) H locs hP hD hS ls (by rw [mGd_t (Ef f0) Dm z c1]; exact (lv_sub hl [1, 2, 3, 0] rfl))
      · refine lv_iload_n hx hb dX0_greatestDemand_16 rfl (lv_at hl 2 rfl) ?_
        refine lv_aload_n hx hb dX0_greatestDemand_17 rfl (lv_at hl 0 rfl) ?_
        refine va_get (D := D) (ci := 0) (v := .ref (a 3)) (C := RX0) (T := TX0) (N := 7) hx hb hts hi_X0 hown hK hP 0 rfl rfl 2 (by decide) (hts (.fieldLink RX0 18 "Coldaisle$Hall" "demand" "[I") (by decide +kernel)) (fun _ h9 => h9) rfl dX0_greatestDemand_18 ?_
        refine lv_iload_n hx hb dX0_greatestDemand_21 rfl (lv_at hl 3 rfl) ?_
        refine k_iald hx hb hK hP 3 0 rfl rfl (i := z) (by omega) (by decide) dX0_greatestDemand_22 ?_
        refine va_mmax hx hb (by rw [hml]; exact hl.1.symm) hown (hts (.methodLink RX0 99 Lib.Math.max.name) (by decide +kernel)) (hts (.static Lib.Math.max.name) (by decide +kernel)) (hts (.initialized "java/lang/Math") (by decide +kernel)) (hts (.code Lib.Math.max.name Lib.Math.max.code 2 (some .int)) (by decide +kernel)) (Nat.le_of_ble_eq_true rfl) (Nat.le_of_ble_eq_true rfl) (Nat.zero_le _) (Nat.zero_le _) (x := mGd (Ef f0) Dm z) (y := Dm z) dX0_greatestDemand_23 ?_
        refine k_as (y := mMax (mGd (Ef f0) Dm z) (Dm z)) rfl ?_
        refine lv_istore_n (lv' := [(2, .int (mMax (mGd (Ef f0) Dm z) (Dm z))), (0, .ref (a 0)), (1, .ref (b (4 + f0))), (3, .int (nI z))]) hx hb dX0_greatestDemand_26 rfl hl (by decide) rfl (fun ls hl => ?_)
        refine lv_iinc (v := nI (z + 1)) (lv' := [(3, .int (nI (z + 1))), (2, .int (mMax (mGd (Ef f0) Dm z) (Dm z))), (0, .ref (a 0)), (1, .ref (b (4 + f0)))]) hx hb dX0_greatestDemand_27 hl (k := 3) rfl (k_inc _) (by decide) rfl (fun ls hl => ?_)
        refine lv_goto (tgt := 4) hx hb dX0_greatestDemand_30 (by decide) ?_
        exact ih (z + 1) (by omega) H locs hP hD hS ls (by rw [mGd_f (Ef f0) Dm z c1]; exact (lv_sub hl [2, 3, 1, 0] rfl))
  exact lp 6 0 rfl H [] hP hD hS ls (lv_sub hl [2, 3, 1, 0] rfl)

abbrev rmX0_commandFans : Room := { frames := 2, cells := 0, slots := 0, locals := 44 }
set_option maxHeartbeats 4000000 in
set_option maxRecDepth 100000 in
/-- commandFans -/
theorem c_X0_commandFans (l : Launch) (D : va_G) (cI cZ cO cJ : ClassId) (a b : Nat → Nat) (T E Dm F S : Nat → Int32) (C : Nat → Nat → Int32) (la : Nat) (Lo Se : Nat → Int32) (Ef : Nat → Nat → Int32) (gp gi am li : Int32) (dl : Nat) (sz : Nat) (h1 : la < 9) : kMv l yX0_commandFans wsX0_commandFans rmX0_commandFans D (kT cI cZ cO cJ) [.ref (a 0), .ref (b 0)] (wH cI cZ cO a b T E Dm F S C la Lo Se Ef gp gi am li dl) (wH cI cZ cO a b T E Dm F S (va_up C ((la + 1) % 9) (mFl 8 (mG1 Ef Dm) (C ((la + 1) % 9)))) ((la + 1) % 9) Lo Se Ef gp gi am li dl) sz := by
  refine kEnter (cc := cX0_commandFans) (maxL := 4) (ret := none) (by decide +kernel) rfl (Nat.le_of_ble_eq_true rfl) ?_
  intro p e s m below meth c args hx hb hr hml hts hown hlocks hin hK hN A hA9 Q hQ9 hP hD hsz hS hA ls hl
  have hl : lv_has ls 4 [(0, .ref (a 0)), (1, .ref (b 0))] := hl
  have hi_X0 : ∀ w ∈ u_ws RX0 TX0 7, w ∈ wsX0_commandFans := by decide +kernel
  have hi_X1 : ∀ w ∈ u_ws RX1 TX1 8, w ∈ wsX0_commandFans := by decide +kernel
  obtain ⟨H, hH9⟩ : ∃ H, H = s.heap := ⟨_, rfl⟩
  rw [← hH9] at hP ⊢
  have hS : va_S A s.heap H [] := by rw [hH9]; exact va_S.rf
  refine lv_aload_n hx hb dX0_commandFans_0 rfl (lv_at hl 0 rfl) ?_
  refine lv_aload_n hx hb dX0_commandFans_1 rfl (lv_at hl 0 rfl) ?_
  refine va_get (D := D) (ci := 0) (v := .int (nI la)) (C := RX0) (T := TX0) (N := 7) hx hb hts hi_X0 hown hK hP 0 rfl rfl 6 (by decide) (hts (.fieldLink RX0 33 "Coldaisle$Hall" "lastMinute" "I") (by decide +kernel)) (fun _ h9 => h9) rfl dX0_commandFans_2 ?_
  refine lv_iconst (v := nI 1) hx hb dX0_commandFans_5 (by decide +kernel) ?_
  refine lv_iadd hx hb dX0_commandFans_6 ?_
  refine k_as (nI_add _ _) ?_
  refine lv_bipush (v := nI 9) hx hb dX0_commandFans_7 (by decide +kernel) ?_
  refine kCall_i (W0 := []) (W1 := []) hP hD hS hA [] rfl rfl (va_runS (As := [.int (nI (la + 1)), .int (nI 9)]) (rest := [.ref (a 0)]) ⟨hx, hb, hml, hown, hts⟩ (c_J9_floorMod_7cf53 l D cI cZ cO cJ (nI (la + 1)) (nI 9) H.size (by decide +kernel)) (va_cwS (rm := rmJ9_floorMod_7cf53) 2 hts gX0_commandFans_J9_floorMod_7cf53 rfl rfl rfl (by decide +kernel) ⟨Nat.le_of_ble_eq_true rfl, Nat.le_of_ble_eq_true rfl⟩) (kPreS hK hN hP hD [] rfl rfl) rfl rfl hl.1 rfl (lv_room (Nat.le_of_ble_eq_true rfl)) dX0_commandFans_9 ⟨Nat.zero_le _, Nat.zero_le _⟩) (fun H locs hP hD hS => ?_)
  have hP : va_P D vwCl (wH cI cZ cO a b T E Dm F S C la Lo Se Ef gp gi am li dl) H := hP
  have hD : va_D A (wH cI cZ cO a b T E Dm F S C la Lo Se Ef gp gi am li dl) := hD
  refine k_as (mNext (by omega)) ?_
  refine va_put (D := D) (ci := 0) (v := .int (nI ((la + 1) % 9))) (ty := tyX0 6) (C := RX0) (T := TX0) (N := 7) hx hb hts hi_X0 tyX0 tyX0_ok nmX0 hown hK hP hD hS 0 rfl rfl 6 (by decide) (hts (.fieldLink RX0 33 "Coldaisle$Hall" "lastMinute" "I") (by decide +kernel)) (fun _ h9 => h9) rfl (by decide +kernel) rfl rfl (Nat.le_of_ble_eq_true rfl) dX0_commandFans_12 (fun H locs hP hD hS => ?_)
  have hP : va_P D vwCl (wH cI cZ cO a b T E Dm F S C ((la + 1) % 9) Lo Se Ef gp gi am li dl) H := hP
  have hD : va_D A (wH cI cZ cO a b T E Dm F S C ((la + 1) % 9) Lo Se Ef gp gi am li dl) := hD
  refine lv_aload_n hx hb dX0_commandFans_15 rfl (lv_at hl 0 rfl) ?_
  refine lv_iconst (v := nI 0) hx hb dX0_commandFans_16 (by decide +kernel) ?_
  refine kCallW_r (W1 := wH cI cZ cO a b T E Dm F S C ((la + 1) % 9) Lo Se Ef gp gi am li dl) hD hS hA rfl (va_runV (As := [.int (nI 0)]) (rest := []) ⟨hx, hb, hml, hown, hts⟩ (c_X0_commandsAgo l D cI cZ cO cJ a b T E Dm F S C ((la + 1) % 9) Lo Se Ef gp gi am li dl 0 H.size (by omega) (by omega)) (cwV (rm := rmX0_commandsAgo) 1 hts gX0_commandFans_X0_commandsAgo rfl rfl rfl (by decide +kernel) ⟨Nat.le_of_ble_eq_true rfl, Nat.le_of_ble_eq_true rfl⟩) (kPreVW hK hN hP hD (va_recv hK hP (ci := 0) (q0 := 0) rfl rfl)) rfl rfl hl.1 rfl (lv_room (Nat.le_of_ble_eq_true rfl)) dX0_commandFans_17 ⟨Nat.zero_le _, Nat.zero_le _⟩) (fun H locs hP hD hS => ?_)
  rw [show ((la + 1) % 9 + 9 - 0) % 9 = ((la + 1) % 9) from by omega]
  refine lv_astore_n (lv' := [(2, .ref (a (7 + ((la + 1) % 9)))), (0, .ref (a 0)), (1, .ref (b 0))]) hx hb dX0_commandFans_20 rfl hl (by decide) rfl (fun ls hl => ?_)
  refine lv_iconst (v := nI 0) hx hb dX0_commandFans_21 (by decide +kernel) ?_
  refine lv_istore_n (lv' := [(3, .int (nI 0)), (2, .ref (a (7 + ((la + 1) % 9)))), (0, .ref (a 0)), (1, .ref (b 0))]) hx hb dX0_commandFans_22 rfl hl (by decide) rfl (fun ls hl => ?_)
  have lp : ∀ (n z : Nat), z + n = 8 → ∀ (H : Heap) (locs : List Loc), va_P D vwCl (wH cI cZ cO a b T E Dm F S (va_up C ((la + 1) % 9) (mFl z (mG1 Ef Dm) (C ((la + 1) % 9)))) ((la + 1) % 9) Lo Se Ef gp gi am li dl) H → va_D A (wH cI cZ cO a b T E Dm F S (va_up C ((la + 1) % 9) (mFl z (mG1 Ef Dm) (C ((la + 1) % 9)))) ((la + 1) % 9) Lo Se Ef gp gi am li dl) → va_S A s.heap H locs → ∀ ls : Array Slot, lv_has ls 4 [(0, .ref (a 0)), (1, .ref (b 0)), (2, .ref (a (7 + ((la + 1) % 9)))), (3, .int (nI z))] → W p l e rmX0_commandFans s m args below meth c H locs 0 0 Q (F0 m 23 ls []) := by
    intro n
    induction n with
    | zero =>
      intro z hz H locs hP hD hS ls hl
      have hz9 : z = 8 := by omega
      subst hz9
      refine lv_iload_n hx hb dX0_commandFans_23 rfl (lv_at hl 3 rfl) ?_
      refine lv_bipush (v := nI 8) hx hb dX0_commandFans_24 (by decide +kernel) ?_
      refine lv_icmp_ge (tgt := 48) hx hb dX0_commandFans_26 (by decide) (fun _ => ?_) (fun c9 => absurd (nI_le (Nat.le_refl 8) (by decide)) c9)
      subst hQ9
      subst hA9
      exact kRet_v hx hb hr hlocks hP hS dX0_commandFans_48
    | succ n ih =>
      intro z hz H locs hP hD hS ls hl
      have hzb : z < 8 := by omega
      refine lv_iload_n hx hb dX0_commandFans_23 rfl (lv_at hl 3 rfl) ?_
      refine lv_bipush (v := nI 8) hx hb dX0_commandFans_24 (by decide +kernel) ?_
      refine lv_icmp_ge (tgt := 48) hx hb dX0_commandFans_26 (by decide) (fun c9 => absurd c9 (nI_ge hzb (by decide))) (fun _ => ?_)
      refine lv_aload_n hx hb dX0_commandFans_29 rfl (lv_at hl 2 rfl) ?_
      refine lv_iload_n hx hb dX0_commandFans_30 rfl (lv_at hl 3 rfl) ?_
      refine lv_aload_n hx hb dX0_commandFans_31 rfl (lv_at hl 0 rfl) ?_
      refine lv_aload_n hx hb dX0_commandFans_32 rfl (lv_at hl 1 rfl) ?_
      refine va_get (D := D) (ci := 1) (v := .ref (b 3)) (C := RX1) (T := TX1) (N := 8) hx hb hts hi_X1 hown hK hP 7 rfl rfl 2 (by decide) (hts (.fieldLink RX0 85 "Coldaisle$Settings" "effect" "[[I") (by decide +kernel)) (fun _ h9 => h9) rfl dX0_commandFans_33 ?_
      refine lv_iload_n hx hb dX0_commandFans_36 rfl (lv_at hl 3 rfl) ?_
      refine k_aald hx hb hK hP 10 2 rfl rfl (i := z) (by omega) (by decide) dX0_commandFans_37 ?_
      refine kCallW_i (W1 := wH cI cZ cO a b T E Dm F S (va_up C ((la + 1) % 9) (mFl z (mG1 Ef Dm) (C ((la + 1) % 9)))) ((la + 1) % 9) Lo Se Ef gp gi am li dl) hD hS hA rfl (va_runV (As := [.ref (b (4 + z))]) (rest := [.int (nI z), .ref (a (7 + ((la + 1) % 9)))]) ⟨hx, hb, hml, hown, hts⟩ (c_X0_greatestDemand l D cI cZ cO cJ a b T E Dm F S (va_up C ((la + 1) % 9) (mFl z (mG1 Ef Dm) (C ((la + 1) % 9)))) ((la + 1) % 9) Lo Se Ef gp gi am li dl z H.size (by omega)) (cwV (rm := rmX0_greatestDemand) 1 hts gX0_commandFans_X0_greatestDemand rfl rfl rfl (by decide +kernel) ⟨Nat.le_of_ble_eq_true rfl, Nat.le_of_ble_eq_true rfl⟩) (kPreVW hK hN hP hD (va_recv hK hP (ci := 0) (q0 := 0) rfl rfl)) rfl rfl hl.1 rfl (lv_room (Nat.le_of_ble_eq_true rfl)) dX0_commandFans_38 ⟨Nat.zero_le _, Nat.zero_le _⟩) (fun H locs hP hD hS => ?_)
      refine k_iast hx hb hK hP hD hS _ 0 (wH_ring (j := ((la + 1) % 9)) (by omega)) rfl (i := z) (x := mGd (Ef z) Dm 6) (by omega) (by decide) dX0_commandFans_41 (fun H locs hP hD hS => ?_)
      have hP : va_P D vwCl (wH cI cZ cO a b T E Dm F S (va_up C ((la + 1) % 9) (mFl (z + 1) (mG1 Ef Dm) (C ((la + 1) % 9)))) ((la + 1) % 9) Lo Se Ef gp gi am li dl) H := (by rw [← mFl_up z (mG1 Ef Dm) (C ((la + 1) % 9))]; have h := hP; rw [wH_ring_set (j := (la + 1) % 9) (by omega), va_up_self, bx_uu] at h; exact h)
      have hD : va_D A (wH cI cZ cO a b T E Dm F S (va_up C ((la + 1) % 9) (mFl (z + 1) (mG1 Ef Dm) (C ((la + 1) % 9)))) ((la + 1) % 9) Lo Se Ef gp gi am li dl) := (by rw [← mFl_up z (mG1 Ef Dm) (C ((la + 1) % 9))]; have h := hD; rw [wH_ring_set (j := (la + 1) % 9) (by omega), va_up_self, bx_uu] at h; exact h)
      refine lv_iinc (v := nI (z + 1)) (lv' := [(3, .int (nI (z + 1))), (0, .ref (a 0)), (1, .ref (b 0)), (2, .ref (a (7 + ((la + 1) % 9))))]) hx hb dX0_commandFans_42 hl (k := 3) rfl (k_inc _) (by decide) rfl (fun ls hl => ?_)
      refine lv_goto (tgt := 23) hx hb dX0_commandFans_45 (by decide) ?_
      exact ih (z + 1) (by omega) H locs hP hD hS ls (lv_sub hl [1, 2, 3, 0] rfl)
  exact lp 8 0 rfl H locs (by simp only [mFl_0, va_up_id]; exact hP) (by simp only [mFl_0, va_up_id]; exact hD) hS ls (lv_sub hl [2, 3, 1, 0] rfl)

abbrev rmX0_turnFans : Room := { frames := 2, cells := 0, slots := 0, locals := 43 }
set_option maxHeartbeats 4000000 in
set_option maxRecDepth 100000 in
/-- turnFans -/
theorem c_X0_turnFans (l : Launch) (D : va_G) (cI cZ cO cJ : ClassId) (a b : Nat → Nat) (T E Dm F S : Nat → Int32) (C : Nat → Nat → Int32) (la : Nat) (Lo Se : Nat → Int32) (Ef : Nat → Nat → Int32) (gp gi am li : Int32) (dl : Nat) (sz : Nat) (h1 : la < 9) (h2 : dl < 9) : kMv l yX0_turnFans wsX0_turnFans rmX0_turnFans D (kT cI cZ cO cJ) [.ref (a 0), .ref (b 0)] (wH cI cZ cO a b T E Dm F S C la Lo Se Ef gp gi am li dl) (wH cI cZ cO a b T E Dm F (mFl 8 (mS1 F (C ((la + 9 - dl) % 9))) S) C la Lo Se Ef gp gi am li dl) sz := by
  refine kEnter (cc := cX0_turnFans) (maxL := 4) (ret := none) (by decide +kernel) rfl (Nat.le_of_ble_eq_true rfl) ?_
  intro p e s m below meth c args hx hb hr hml hts hown hlocks hin hK hN A hA9 Q hQ9 hP hD hsz hS hA ls hl
  have hl : lv_has ls 4 [(0, .ref (a 0)), (1, .ref (b 0))] := hl
  have hi_X0 : ∀ w ∈ u_ws RX0 TX0 7, w ∈ wsX0_turnFans := by decide +kernel
  have hi_X1 : ∀ w ∈ u_ws RX1 TX1 8, w ∈ wsX0_turnFans := by decide +kernel
  obtain ⟨H, hH9⟩ : ∃ H, H = s.heap := ⟨_, rfl⟩
  rw [← hH9] at hP ⊢
  have hS : va_S A s.heap H [] := by rw [hH9]; exact va_S.rf
  refine lv_aload_n hx hb dX0_turnFans_0 rfl (lv_at hl 0 rfl) ?_
  refine lv_aload_n hx hb dX0_turnFans_1 rfl (lv_at hl 1 rfl) ?_
  refine va_get (D := D) (ci := 1) (v := .int (nI dl)) (C := RX1) (T := TX1) (N := 8) hx hb hts hi_X1 hown hK hP 7 rfl rfl 7 (by decide) (hts (.fieldLink RX0 102 "Coldaisle$Settings" "delay" "I") (by decide +kernel)) (fun _ h9 => h9) rfl dX0_turnFans_2 ?_
  refine kCallW_r (W1 := wH cI cZ cO a b T E Dm F S C la Lo Se Ef gp gi am li dl) hD hS hA rfl (va_runV (As := [.int (nI dl)]) (rest := []) ⟨hx, hb, hml, hown, hts⟩ (c_X0_commandsAgo l D cI cZ cO cJ a b T E Dm F S C la Lo Se Ef gp gi am li dl dl H.size (by omega) (by omega)) (cwV (rm := rmX0_commandsAgo) 1 hts gX0_turnFans_X0_commandsAgo rfl rfl rfl (by decide +kernel) ⟨Nat.le_of_ble_eq_true rfl, Nat.le_of_ble_eq_true rfl⟩) (kPreVW hK hN hP hD (va_recv hK hP (ci := 0) (q0 := 0) rfl rfl)) rfl rfl hl.1 rfl (lv_room (Nat.le_of_ble_eq_true rfl)) dX0_turnFans_5 ⟨Nat.zero_le _, Nat.zero_le _⟩) (fun H locs hP hD hS => ?_)
  refine lv_astore_n (lv' := [(2, .ref (a (7 + (la + 9 - dl) % 9))), (0, .ref (a 0)), (1, .ref (b 0))]) hx hb dX0_turnFans_8 rfl hl (by decide) rfl (fun ls hl => ?_)
  refine lv_iconst (v := nI 0) hx hb dX0_turnFans_9 (by decide +kernel) ?_
  refine lv_istore_n (lv' := [(3, .int (nI 0)), (2, .ref (a (7 + (la + 9 - dl) % 9))), (0, .ref (a 0)), (1, .ref (b 0))]) hx hb dX0_turnFans_10 rfl hl (by decide) rfl (fun ls hl => ?_)
  have lp : ∀ (n z : Nat), z + n = 8 → ∀ (H : Heap) (locs : List Loc), va_P D vwCl (wH cI cZ cO a b T E Dm F (mFl z (mS1 F (C ((la + 9 - dl) % 9))) S) C la Lo Se Ef gp gi am li dl) H → va_D A (wH cI cZ cO a b T E Dm F (mFl z (mS1 F (C ((la + 9 - dl) % 9))) S) C la Lo Se Ef gp gi am li dl) → va_S A s.heap H locs → ∀ ls : Array Slot, lv_has ls 4 [(0, .ref (a 0)), (1, .ref (b 0)), (2, .ref (a (7 + (la + 9 - dl) % 9))), (3, .int (nI z))] → W p l e rmX0_turnFans s m args below meth c H locs 0 0 Q (F0 m 11 ls []) := by
    intro n
    induction n with
    | zero =>
      intro z hz H locs hP hD hS ls hl
      have hz9 : z = 8 := by omega
      subst hz9
      refine lv_iload_n hx hb dX0_turnFans_11 rfl (lv_at hl 3 rfl) ?_
      refine lv_bipush (v := nI 8) hx hb dX0_turnFans_12 (by decide +kernel) ?_
      refine lv_icmp_ge (tgt := 45) hx hb dX0_turnFans_14 (by decide) (fun _ => ?_) (fun c9 => absurd (nI_le (Nat.le_refl 8) (by decide)) c9)
      subst hQ9
      subst hA9
      exact kRet_v hx hb hr hlocks hP hS dX0_turnFans_45
    | succ n ih =>
      intro z hz H locs hP hD hS ls hl
      have hzb : z < 8 := by omega
      refine lv_iload_n hx hb dX0_turnFans_11 rfl (lv_at hl 3 rfl) ?_
      refine lv_bipush (v := nI 8) hx hb dX0_turnFans_12 (by decide +kernel) ?_
      refine lv_icmp_ge (tgt := 45) hx hb dX0_turnFans_14 (by decide) (fun c9 => absurd c9 (nI_ge hzb (by decide))) (fun _ => ?_)
      refine lv_aload_n hx hb dX0_turnFans_17 rfl (lv_at hl 0 rfl) ?_
      refine va_get (D := D) (ci := 0) (v := .ref (a 5)) (C := RX0) (T := TX0) (N := 7) hx hb hts hi_X0 hown hK hP 0 rfl rfl 4 (by decide) (hts (.fieldLink RX0 25 "Coldaisle$Hall" "speed" "[I") (by decide +kernel)) (fun _ h9 => h9) rfl dX0_turnFans_18 ?_
      refine lv_iload_n hx hb dX0_turnFans_21 rfl (lv_at hl 3 rfl) ?_
      refine lv_aload_n hx hb dX0_turnFans_22 rfl (lv_at hl 0 rfl) ?_
      refine va_get (D := D) (ci := 0) (v := .ref (a 4)) (C := RX0) (T := TX0) (N := 7) hx hb hts hi_X0 hown hK hP 0 rfl rfl 3 (by decide) (hts (.fieldLink RX0 21 "Coldaisle$Hall" "failed" "[Z") (by decide +kernel)) (fun _ h9 => h9) rfl dX0_turnFans_23 ?_
      refine lv_iload_n hx hb dX0_turnFans_26 rfl (lv_at hl 3 rfl) ?_
      refine k_zald hx hb hK hP 4 1 rfl rfl (i := z) (by omega) (by decide) dX0_turnFans_27 ?_
      refine lv_if_eq (tgt := 35) hx hb dX0_turnFans_28 (by decide) (fun c1 => ?_) (fun c1 => ?_)
      · refine lv_aload_n hx hb dX0_turnFans_35 rfl (lv_at hl 2 rfl) ?_
        refine lv_iload_n hx hb dX0_turnFans_36 rfl (lv_at hl 3 rfl) ?_
        refine k_iald hx hb hK hP _ 0 (wH_ring (j := (la + 9 - dl) % 9) (by omega)) rfl (i := z) (by omega) (by decide) dX0_turnFans_37 ?_
        refine k_iast hx hb hK hP hD hS 5 0 rfl rfl (i := z) (x := (C ((la + 9 - dl) % 9)) z) (by omega) (by decide) dX0_turnFans_38 (fun H locs hP hD hS => ?_)
        have hP : va_P D vwCl (wH cI cZ cO a b T E Dm F (upd (mFl z (mS1 F (C ((la + 9 - dl) % 9))) S) z ((C ((la + 9 - dl) % 9)) z)) C la Lo Se Ef gp gi am li dl) H := hP
        have hD : va_D A (wH cI cZ cO a b T E Dm F (upd (mFl z (mS1 F (C ((la + 9 - dl) % 9))) S) z ((C ((la + 9 - dl) % 9)) z)) C la Lo Se Ef gp gi am li dl) := hD
        have hP : va_P D vwCl (wH cI cZ cO a b T E Dm F (mFl (z + 1) (mS1 F (C ((la + 9 - dl) % 9))) S) C la Lo Se Ef gp gi am li dl) H := by rw [← mFl_up z (mS1 F (C ((la + 9 - dl) % 9))) S, show mS1 F (C ((la + 9 - dl) % 9)) z = C ((la + 9 - dl) % 9) z from if_pos c1]; exact hP
        have hD : va_D A (wH cI cZ cO a b T E Dm F (mFl (z + 1) (mS1 F (C ((la + 9 - dl) % 9))) S) C la Lo Se Ef gp gi am li dl) := by rw [← mFl_up z (mS1 F (C ((la + 9 - dl) % 9))) S, show mS1 F (C ((la + 9 - dl) % 9)) z = C ((la + 9 - dl) % 9) z from if_pos c1]; exact hD
        refine lv_iinc (v := nI (z + 1)) (lv' := [(3, .int (nI (z + 1))), (0, .ref (a 0)), (1, .ref (b 0)), (2, .ref (a (7 + (la + 9 - dl) % 9)))]) hx hb dX0_turnFans_39 hl (k := 3) rfl (k_inc _) (by decide) rfl (fun ls hl => ?_)
        refine lv_goto (tgt := 11) hx hb dX0_turnFans_42 (by decide) ?_
        exact ih (z + 1) (by omega) H locs hP hD hS ls (lv_sub hl [1, 2, 3, 0] rfl)
      · refine lv_iconst (v := nI 0) hx hb dX0_turnFans_31 (by decide +kernel) ?_
        refine lv_goto (tgt := 38) hx hb dX0_turnFans_32 (by decide) ?_
        refine k_iast hx hb hK hP hD hS 5 0 rfl rfl (i := z) (x := nI 0) (by omega) (by decide) dX0_turnFans_38 (fun H locs hP hD hS => ?_)
        have hP : va_P D vwCl (wH cI cZ cO a b T E Dm F (upd (mFl z (mS1 F (C ((la + 9 - dl) % 9))) S) z (nI 0)) C la Lo Se Ef gp gi am li dl) H := hP
        have hD : va_D A (wH cI cZ cO a b T E Dm F (upd (mFl z (mS1 F (C ((la + 9 - dl) % 9))) S) z (nI 0)) C la Lo Se Ef gp gi am li dl) := hD
        have hP : va_P D vwCl (wH cI cZ cO a b T E Dm F (mFl (z + 1) (mS1 F (C ((la + 9 - dl) % 9))) S) C la Lo Se Ef gp gi am li dl) H := by rw [← mFl_up z (mS1 F (C ((la + 9 - dl) % 9))) S, show mS1 F (C ((la + 9 - dl) % 9)) z = nI 0 from if_neg c1]; exact hP
        have hD : va_D A (wH cI cZ cO a b T E Dm F (mFl (z + 1) (mS1 F (C ((la + 9 - dl) % 9))) S) C la Lo Se Ef gp gi am li dl) := by rw [← mFl_up z (mS1 F (C ((la + 9 - dl) % 9))) S, show mS1 F (C ((la + 9 - dl) % 9)) z = nI 0 from if_neg c1]; exact hD
        refine lv_iinc (v := nI (z + 1)) (lv' := [(3, .int (nI (z + 1))), (0, .ref (a 0)), (1, .ref (b 0)), (2, .ref (a (7 + (la + 9 - dl) % 9)))]) hx hb dX0_turnFans_39 hl (k := 3) rfl (k_inc _) (by decide) rfl (fun ls hl => ?_)
        refine lv_goto (tgt := 11) hx hb dX0_turnFans_42 (by decide) ?_
        exact ih (z + 1) (by omega) H locs hP hD hS ls (lv_sub hl [1, 2, 3, 0] rfl)
  exact lp 8 0 rfl H locs (by simp only [mFl_0]; exact hP) (by simp only [mFl_0]; exact hD) hS ls (lv_sub hl [2, 3, 1, 0] rfl)

abbrev rmX0_nextTemperature : Room := { frames := 1, cells := 0, slots := 0, locals := 22 }
set_option maxHeartbeats 4000000 in
set_option maxRecDepth 100000 in
/-- nextTemperature -/
theorem c_X0_nextTemperature (l : Launch) (D : va_G) (cI cZ cO cJ : ClassId) (a b : Nat → Nat) (T E Dm F S : Nat → Int32) (C : Nat → Nat → Int32) (la : Nat) (Lo Se : Nat → Int32) (Ef : Nat → Nat → Int32) (gp gi am li : Int32) (dl : Nat) (z0 : Nat) (sz : Nat) (hz0 : z0 < 6) : kMi l yX0_nextTemperature wsX0_nextTemperature rmX0_nextTemperature D (kT cI cZ cO cJ) [.ref (a 0), .ref (b 0), .int (nI z0)] (wH cI cZ cO a b T E Dm F S C la Lo Se Ef gp gi am li dl) (wH cI cZ cO a b T E Dm F S C la Lo Se Ef gp gi am li dl) sz (mTn (T z0) (Lo z0) am (mCo Ef S z0 8)) := by
  refine kEnter (cc := cX0_nextTemperature) (maxL := 6) (ret := some .int) (by decide +kernel) rfl (Nat.le_of_ble_eq_true rfl) ?_
  intro p e s m below meth c args hx hb hr hml hts hown hlocks hin hK hN A hA9 Q hQ9 hP hD hsz hS hA ls hl
  have hl : lv_has ls 6 [(0, .ref (a 0)), (1, .ref (b 0)), (2, .int (nI z0))] := hl
  have hi_X0 : ∀ w ∈ u_ws RX0 TX0 7, w ∈ wsX0_nextTemperature := by decide +kernel
  have hi_X1 : ∀ w ∈ u_ws RX1 TX1 8, w ∈ wsX0_nextTemperature := by decide +kernel
  obtain ⟨H, hH9⟩ : ∃ H, H = s.heap := ⟨_, rfl⟩
  rw [← hH9] at hP ⊢
  have hS : va_S A s.heap H [] := by rw [hH9]; exact va_S.rf
  refine lv_iconst (v := nI 0) hx hb dX0_nextTemperature_0 (by decide +kernel) ?_
  refine lv_istore_n (lv' := [(3, .int (nI 0)), (0, .ref (a 0)), (1, .ref (b 0)), (2, .int (nI z0))]) hx hb dX0_nextTemperature_1 rfl hl (by decide) rfl (fun ls hl => ?_)
  refine lv_iconst (v := nI 0) hx hb dX0_nextTemperature_2 (by decide +kernel) ?_
  refine lv_istore (lv' := [(4, .int (nI 0)), (3, .int (nI 0)), (0, .ref (a 0)), (1, .ref (b 0)), (2, .int (nI z0))]) hx hb dX0_nextTemperature_3 hl (by decide) rfl (fun ls hl => ?_)
  have lp : ∀ (n z : Nat), z + n = 8 → ∀ (H : Heap) (locs : List Loc), va_P D vwCl (wH cI cZ cO a b T E Dm F S C la Lo Se Ef gp gi am li dl) H → va_D A (wH cI cZ cO a b T E Dm F S C la Lo Se Ef gp gi am li dl) → va_S A s.heap H locs → ∀ ls : Array Slot, lv_has ls 6 [(0, .ref (a 0)), (1, .ref (b 0)), (2, .int (nI z0)), (3, .int (mCo Ef S z0 z)), (4, .int (nI z))] → W p l e rmX0_nextTemperature s m args below meth c H locs 0 0 Q (F0 m 5 ls []) := by
    intro n
    induction n with
    | zero =>
      intro z hz H locs hP hD hS ls hl
      have hz9 : z = 8 := by omega
      subst hz9
      refine lv_iload hx hb dX0_nextTemperature_5 (lv_at hl 4 rfl) ?_
      refine lv_bipush (v := nI 8) hx hb dX0_nextTemperature_7 (by decide +kernel) ?_
      refine lv_icmp_ge (tgt := 38) hx hb dX0_nextTemperature_9 (by decide) (fun _ => ?_) (fun c9 => absurd (nI_le (Nat.le_refl 8) (by decide)) c9)
      refine lv_aload_n hx hb dX0_nextTemperature_38 rfl (lv_at hl 0 rfl) ?_
      refine va_get (D := D) (ci := 0) (v := .ref (a 1)) (C := RX0) (T := TX0) (N := 7) hx hb hts hi_X0 hown hK hP 0 rfl rfl 0 (by decide) (hts (.fieldLink RX0 9 "Coldaisle$Hall" "temperature" "[I") (by decide +kernel)) (fun _ h9 => h9) rfl dX0_nextTemperature_39 ?_
      refine lv_iload_n hx hb dX0_nextTemperature_42 rfl (lv_at hl 2 rfl) ?_
      refine k_iald hx hb hK hP 1 0 rfl rfl (i := z0) (by omega) (by decide) dX0_nextTemperature_43 ?_
      refine lv_istore (lv' := [(4, .int (T z0)), (0, .ref (a 0)), (1, .ref (b 0)), (2, .int (nI z0)), (3, .int (mCo Ef S z0 8))]) hx hb dX0_nextTemperature_44 hl (by decide) rfl (fun ls hl => ?_)
      refine lv_aload_n hx hb dX0_nextTemperature_46 rfl (lv_at hl 2 rfl) ?_
      refine va_get (D := D) (ci := 1) (v := .int am) (C := RX1) (T := TX1) (N := 8) hx hb hts hi_X1 hown hK hP 7 rfl rfl 5 (by decide) (hts (.fieldLink RX0 105 "Coldaisle$Settings" "ambient" "I") (by decide +kernel)) (fun _ h9 => h9) rfl dX0_nextTemperature_47 ?_
      refine lv_iload hx hb dX0_nextTemperature_50 (lv_at hl 0 rfl) ?_
      refine lv_isub hx hb dX0_nextTemperature_52 ?_
      refine lv_bipush (v := nI 64) hx hb dX0_nextTemperature_53 (by decide +kernel) ?_
      refine kCall_i (W0 := []) (W1 := []) hP hD hS hA [] rfl rfl (va_runS (As := [.int (am - (T z0)), .int (nI 64)]) (rest := []) ⟨hx, hb, hml, hown, hts⟩ (c_J9_floorDiv_7cf53 l D cI cZ cO cJ (am - (T z0)) (nI 64) H.size (by decide +kernel)) (va_cwS (rm := rmJ9_floorDiv_7cf53) 2 hts gX0_nextTemperature_J9_floorDiv_7cf53 rfl rfl rfl (by decide +kernel) ⟨Nat.le_of_ble_eq_true rfl, Nat.le_of_ble_eq_true rfl⟩) (kPreS hK hN hP hD [] rfl rfl) rfl rfl hl.1 rfl (lv_room (Nat.le_of_ble_eq_true rfl)) dX0_nextTemperature_55 ⟨Nat.zero_le _, Nat.zero_le _⟩) (fun H locs hP hD hS => ?_)
      have hP : va_P D vwCl (wH cI cZ cO a b T E Dm F S C la Lo Se Ef gp gi am li dl) H := hP
      have hD : va_D A (wH cI cZ cO a b T E Dm F S C la Lo Se Ef gp gi am li dl) := hD
      refine lv_istore (lv' := [(5, .int (mFd (am - (T z0)) (nI 64))), (4, .int (T z0)), (0, .ref (a 0)), (1, .ref (b 0)), (2, .int (nI z0)), (3, .int (mCo Ef S z0 8))]) hx hb dX0_nextTemperature_58 hl (by decide) rfl (fun ls hl => ?_)
      refine lv_iload hx hb dX0_nextTemperature_60 (lv_at hl 1 rfl) ?_
      refine lv_aload_n hx hb dX0_nextTemperature_62 rfl (lv_at hl 3 rfl) ?_
      refine va_get (D := D) (ci := 1) (v := .ref (b 1)) (C := RX1) (T := TX1) (N := 8) hx hb hts hi_X1 hown hK hP 7 rfl rfl 0 (by decide) (hts (.fieldLink RX0 108 "Coldaisle$Settings" "load" "[I") (by decide +kernel)) (fun _ h9 => h9) rfl dX0_nextTemperature_63 ?_
      refine lv_iload_n hx hb dX0_nextTemperature_66 rfl (lv_at hl 4 rfl) ?_
      refine k_iald hx hb hK hP 8 0 rfl rfl (i := z0) (by omega) (by decide) dX0_nextTemperature_67 ?_
      refine lv_iadd hx hb dX0_nextTemperature_68 ?_
      refine lv_iload hx hb dX0_nextTemperature_69 (lv_at hl 0 rfl) ?_
      refine lv_iadd hx hb dX0_nextTemperature_71 ?_
      refine lv_iload_n hx hb dX0_nextTemperature_72 rfl (lv_at hl 5 rfl) ?_
      refine lv_bipush (v := nI 100) hx hb dX0_nextTemperature_73 (by decide +kernel) ?_
      refine lv_idiv hx hb dX0_nextTemperature_75 (by decide +kernel) ?_
      refine lv_isub hx hb dX0_nextTemperature_76 ?_
      subst hQ9
      subst hA9
      exact kRet_i hx hb hr hlocks hP hS dX0_nextTemperature_77 rfl
    | succ n ih =>
      intro z hz H locs hP hD hS ls hl
      have hzb : z < 8 := by omega
      refine lv_iload hx hb dX0_nextTemperature_5 (lv_at hl 4 rfl) ?_
      refine lv_bipush (v := nI 8) hx hb dX0_nextTemperature_7 (by decide +kernel) ?_
      refine lv_icmp_ge (tgt := 38) hx hb dX0_nextTemperature_9 (by decide) (fun c9 => absurd c9 (nI_ge hzb (by decide))) (fun _ => ?_)
      refine lv_iload_n hx hb dX0_nextTemperature_12 rfl (lv_at hl 3 rfl) ?_
      refine lv_aload_n hx hb dX0_nextTemperature_13 rfl (lv_at hl 1 rfl) ?_
      refine va_get (D := D) (ci := 1) (v := .ref (b 3)) (C := RX1) (T := TX1) (N := 8) hx hb hts hi_X1 hown hK hP 7 rfl rfl 2 (by decide) (hts (.fieldLink RX0 85 "Coldaisle$Settings" "effect" "[[I") (by decide +kernel)) (fun _ h9 => h9) rfl dX0_nextTemperature_14 ?_
      refine lv_iload hx hb dX0_nextTemperature_17 (lv_at hl 4 rfl) ?_
      refine k_aald hx hb hK hP 10 2 rfl rfl (i := z) (by omega) (by decide) dX0_nextTemperature_19 ?_
      refine lv_iload_n hx hb dX0_nextTemperature_20 rfl (lv_at hl 2 rfl) ?_
      refine k_iald hx hb hK hP _ 0 (wH_eff (j := z) (by omega)) rfl (i := z0) (by omega) (by decide) dX0_nextTemperature_21 ?_
      refine lv_aload_n hx hb dX0_nextTemperature_22 rfl (lv_at hl 0 rfl) ?_
      refine va_get (D := D) (ci := 0) (v := .ref (a 5)) (C := RX0) (T := TX0) (N := 7) hx hb hts hi_X0 hown hK hP 0 rfl rfl 4 (by decide) (hts (.fieldLink RX0 25 "Coldaisle$Hall" "speed" "[I") (by decide +kernel)) (fun _ h9 => h9) rfl dX0_nextTemperature_23 ?_
      refine lv_iload hx hb dX0_nextTemperature_26 (lv_at hl 4 rfl) ?_
      refine k_iald hx hb hK hP 5 0 rfl rfl (i := z) (by omega) (by decide) dX0_nextTemperature_28 ?_
      refine lv_imul hx hb dX0_nextTemperature_29 ?_
      refine lv_iadd hx hb dX0_nextTemperature_30 ?_
      refine lv_istore_n (lv' := [(3, .int ((mCo Ef S z0 z) + (((Ef z) z0) * (S z)))), (0, .ref (a 0)), (1, .ref (b 0)), (2, .int (nI z0)), (4, .int (nI z))]) hx hb dX0_nextTemperature_31 rfl hl (by decide) rfl (fun ls hl => ?_)
      refine lv_iinc (v := nI (z + 1)) (lv' := [(4, .int (nI (z + 1))), (3, .int ((mCo Ef S z0 z) + (((Ef z) z0) * (S z)))), (0, .ref (a 0)), (1, .ref (b 0)), (2, .int (nI z0))]) hx hb dX0_nextTemperature_32 hl (k := 4) rfl (k_inc _) (by decide) rfl (fun ls hl => ?_)
      refine lv_goto (tgt := 5) hx hb dX0_nextTemperature_35 (by decide) ?_
      exact ih (z + 1) (by omega) H locs hP hD hS ls (lv_sub hl [2, 3, 4, 1, 0] rfl)
  exact lp 8 0 rfl H [] hP hD hS ls (lv_sub hl [2, 3, 4, 1, 0] rfl)

abbrev rmX0_runMinute : Room := { frames := 3, cells := 0, slots := 0, locals := 69 }
set_option maxHeartbeats 4000000 in
set_option maxRecDepth 100000 in
/-- runMinute -/
theorem c_X0_runMinute (l : Launch) (D : va_G) (cI cZ cO cJ : ClassId) (a b : Nat → Nat) (T E Dm F S : Nat → Int32) (C : Nat → Nat → Int32) (la : Nat) (Lo Se : Nat → Int32) (Ef : Nat → Nat → Int32) (gp gi am li : Int32) (dl : Nat) (sz : Nat) (h1 : la < 9) (h2 : dl < 9) : kMv l yX0_runMinute wsX0_runMinute rmX0_runMinute D (kT cI cZ cO cJ) [.ref (a 0), .ref (b 0)] (wH cI cZ cO a b T E Dm F S C la Lo Se Ef gp gi am li dl) (wH cI cZ cO a b (nT gp gi am T E Dm F S C la Lo Se Ef dl) (nE T E Se) (nD gp gi T E Dm F Se Ef) F (nS gp gi T E Dm F S C la Se Ef dl) (nC gp gi T E Dm F C la Se Ef) ((la + 1) % 9) Lo Se Ef gp gi am li dl) sz := by
  refine kEnter (cc := cX0_runMinute) (maxL := 4) (ret := none) (by decide +kernel) rfl (Nat.le_of_ble_eq_true rfl) ?_
  intro p e s m below meth c args hx hb hr hml hts hown hlocks hin hK hN A hA9 Q hQ9 hP hD hsz hS hA ls hl
  have hl : lv_has ls 4 [(0, .ref (a 0)), (1, .ref (b 0))] := hl
  have hi_X0 : ∀ w ∈ u_ws RX0 TX0 7, w ∈ wsX0_runMinute := by decide +kernel
  have hi_X1 : ∀ w ∈ u_ws RX1 TX1 8, w ∈ wsX0_runMinute := by decide +kernel
  obtain ⟨H, hH9⟩ : ∃ H, H = s.heap := ⟨_, rfl⟩
  rw [← hH9] at hP ⊢
  have hS : va_S A s.heap H [] := by rw [hH9]; exact va_S.rf
  refine lv_iconst (v := nI 0) hx hb dX0_runMinute_0 (by decide +kernel) ?_
  refine lv_istore_n (lv' := [(2, .int (nI 0)), (0, .ref (a 0)), (1, .ref (b 0))]) hx hb dX0_runMinute_1 rfl hl (by decide) rfl (fun ls hl => ?_)
  have lp : ∀ (n z : Nat), z + n = 6 → ∀ (H : Heap) (locs : List Loc), va_P D vwCl (wH cI cZ cO a b T (mFl z (mE1 T E Se) E) (mFl z (mD1 gp gi T E Se F Ef) Dm) F S C la Lo Se Ef gp gi am li dl) H → va_D A (wH cI cZ cO a b T (mFl z (mE1 T E Se) E) (mFl z (mD1 gp gi T E Se F Ef) Dm) F S C la Lo Se Ef gp gi am li dl) → va_S A s.heap H locs → ∀ ls : Array Slot, lv_has ls 4 [(0, .ref (a 0)), (1, .ref (b 0)), (2, .int (nI z))] → W p l e rmX0_runMinute s m args below meth c H locs 0 0 Q (F0 m 2 ls []) := by
    intro n
    induction n with
    | zero =>
      intro z hz H locs hP hD hS ls hl
      have hz9 : z = 6 := by omega
      subst hz9
      refine lv_iload_n hx hb dX0_runMinute_2 rfl (lv_at hl 2 rfl) ?_
      refine lv_bipush (v := nI 6) hx hb dX0_runMinute_3 (by decide +kernel) ?_
      refine lv_icmp_ge (tgt := 34) hx hb dX0_runMinute_5 (by decide) (fun _ => ?_) (fun c9 => absurd (nI_le (Nat.le_refl 6) (by decide)) c9)
      have hP : va_P D vwCl (wH cI cZ cO a b T (nE T E Se) (nD gp gi T E Dm F Se Ef) F S C la Lo Se Ef gp gi am li dl) H := hP
      have hD : va_D A (wH cI cZ cO a b T (nE T E Se) (nD gp gi T E Dm F Se Ef) F S C la Lo Se Ef gp gi am li dl) := hD
      refine lv_aload_n hx hb dX0_runMinute_34 rfl (lv_at hl 0 rfl) ?_
      refine lv_aload_n hx hb dX0_runMinute_35 rfl (lv_at hl 1 rfl) ?_
      refine kCallW_v (W1 := wH cI cZ cO a b T (nE T E Se) (nD gp gi T E Dm F Se Ef) F S (va_up C ((la + 1) % 9) (mFl 8 (mG1 Ef (nD gp gi T E Dm F Se Ef)) (C ((la + 1) % 9)))) ((la + 1) % 9) Lo Se Ef gp gi am li dl) hD hS hA rfl (va_runV (As := [.ref (b 0)]) (rest := []) ⟨hx, hb, hml, hown, hts⟩ (c_X0_commandFans l D cI cZ cO cJ a b T (nE T E Se) (nD gp gi T E Dm F Se Ef) F S C la Lo Se Ef gp gi am li dl H.size (by omega)) (cwV (rm := rmX0_commandFans) 1 hts gX0_runMinute_X0_commandFans rfl rfl rfl (by decide +kernel) ⟨Nat.le_of_ble_eq_true rfl, Nat.le_of_ble_eq_true rfl⟩) (kPreVW hK hN hP hD (va_recv hK hP (ci := 0) (q0 := 0) rfl rfl)) rfl rfl hl.1 rfl (lv_room (Nat.le_of_ble_eq_true rfl)) dX0_runMinute_36 ⟨Nat.zero_le _, Nat.zero_le _⟩) (fun H locs hP hD hS => ?_)
      have hP : va_P D vwCl (wH cI cZ cO a b T (nE T E Se) (nD gp gi T E Dm F Se Ef) F S (nC gp gi T E Dm F C la Se Ef) ((la + 1) % 9) Lo Se Ef gp gi am li dl) H := hP
      have hD : va_D A (wH cI cZ cO a b T (nE T E Se) (nD gp gi T E Dm F Se Ef) F S (nC gp gi T E Dm F C la Se Ef) ((la + 1) % 9) Lo Se Ef gp gi am li dl) := hD
      refine lv_aload_n hx hb dX0_runMinute_39 rfl (lv_at hl 0 rfl) ?_
      refine lv_aload_n hx hb dX0_runMinute_40 rfl (lv_at hl 1 rfl) ?_
      refine kCallW_v (W1 := wH cI cZ cO a b T (nE T E Se) (nD gp gi T E Dm F Se Ef) F (mFl 8 (mS1 F ((nC gp gi T E Dm F C la Se Ef) (((la + 1) % 9 + 9 - dl) % 9))) S) (nC gp gi T E Dm F C la Se Ef) ((la + 1) % 9) Lo Se Ef gp gi am li dl) hD hS hA rfl (va_runV (As := [.ref (b 0)]) (rest := []) ⟨hx, hb, hml, hown, hts⟩ (c_X0_turnFans l D cI cZ cO cJ a b T (nE T E Se) (nD gp gi T E Dm F Se Ef) F S (nC gp gi T E Dm F C la Se Ef) ((la + 1) % 9) Lo Se Ef gp gi am li dl H.size (by omega) (by omega)) (cwV (rm := rmX0_turnFans) 1 hts gX0_runMinute_X0_turnFans rfl rfl rfl (by decide +kernel) ⟨Nat.le_of_ble_eq_true rfl, Nat.le_of_ble_eq_true rfl⟩) (kPreVW hK hN hP hD (va_recv hK hP (ci := 0) (q0 := 0) rfl rfl)) rfl rfl hl.1 rfl (lv_room (Nat.le_of_ble_eq_true rfl)) dX0_runMinute_41 ⟨Nat.zero_le _, Nat.zero_le _⟩) (fun H locs hP hD hS => ?_)
      have hP : va_P D vwCl (wH cI cZ cO a b T (nE T E Se) (nD gp gi T E Dm F Se Ef) F (nS gp gi T E Dm F S C la Se Ef dl) (nC gp gi T E Dm F C la Se Ef) ((la + 1) % 9) Lo Se Ef gp gi am li dl) H := hP
      have hD : va_D A (wH cI cZ cO a b T (nE T E Se) (nD gp gi T E Dm F Se Ef) F (nS gp gi T E Dm F S C la Se Ef dl) (nC gp gi T E Dm F C la Se Ef) ((la + 1) % 9) Lo Se Ef gp gi am li dl) := hD
      refine lv_iconst (v := nI 0) hx hb dX0_runMinute_44 (by decide +kernel) ?_
      refine lv_istore_n (lv' := [(2, .int (nI 0)), (0, .ref (a 0)), (1, .ref (b 0))]) hx hb dX0_runMinute_45 rfl hl (by decide) rfl (fun ls hl => ?_)
      have lq : ∀ (n z : Nat), z + n = 6 → ∀ (H : Heap) (locs : List Loc), va_P D vwCl (wH cI cZ cO a b (mFl z (mT1 am T Lo Ef (nS gp gi T E Dm F S C la Se Ef dl)) T) (nE T E Se) (nD gp gi T E Dm F Se Ef) F (nS gp gi T E Dm F S C la Se Ef dl) (nC gp gi T E Dm F C la Se Ef) ((la + 1) % 9) Lo Se Ef gp gi am li dl) H → va_D A (wH cI cZ cO a b (mFl z (mT1 am T Lo Ef (nS gp gi T E Dm F S C la Se Ef dl)) T) (nE T E Se) (nD gp gi T E Dm F Se Ef) F (nS gp gi T E Dm F S C la Se Ef dl) (nC gp gi T E Dm F C la Se Ef) ((la + 1) % 9) Lo Se Ef gp gi am li dl) → va_S A s.heap H locs → ∀ ls : Array Slot, lv_has ls 4 [(0, .ref (a 0)), (1, .ref (b 0)), (2, .int (nI z))] → W p l e rmX0_runMinute s m args below meth c H locs 0 0 Q (F0 m 46 ls []) := by
        intro n
        induction n with
        | zero =>
          intro z hz H locs hP hD hS ls hl
          have hz9 : z = 6 := by omega
          subst hz9
          refine lv_iload_n hx hb dX0_runMinute_46 rfl (lv_at hl 2 rfl) ?_
          refine lv_bipush (v := nI 6) hx hb dX0_runMinute_47 (by decide +kernel) ?_
          refine lv_icmp_ge (tgt := 70) hx hb dX0_runMinute_49 (by decide) (fun _ => ?_) (fun c9 => absurd (nI_le (Nat.le_refl 6) (by decide)) c9)
          subst hQ9
          subst hA9
          exact kRet_v hx hb hr hlocks hP hS dX0_runMinute_70
        | succ n ih =>
          intro z hz H locs hP hD hS ls hl
          have hzb : z < 6 := by omega
          refine lv_iload_n hx hb dX0_runMinute_46 rfl (lv_at hl 2 rfl) ?_
          refine lv_bipush (v := nI 6) hx hb dX0_runMinute_47 (by decide +kernel) ?_
          refine lv_icmp_ge (tgt := 70) hx hb dX0_runMinute_49 (by decide) (fun c9 => absurd c9 (nI_ge hzb (by decide))) (fun _ => ?_)
          refine lv_aload_n hx hb dX0_runMinute_52 rfl (lv_at hl 0 rfl) ?_
          refine va_get (D := D) (ci := 0) (v := .ref (a 1)) (C := RX0) (T := TX0) (N := 7) hx hb hts hi_X0 hown hK hP 0 rfl rfl 0 (by decide) (hts (.fieldLink RX0 9 "Coldaisle$Hall" "temperature" "[I") (by decide +kernel)) (fun _ h9 => h9) rfl dX0_runMinute_53 ?_
          refine lv_iload_n hx hb dX0_runMinute_56 rfl (lv_at hl 2 rfl) ?_
          refine lv_aload_n hx hb dX0_runMinute_57 rfl (lv_at hl 0 rfl) ?_
          refine lv_aload_n hx hb dX0_runMinute_58 rfl (lv_at hl 1 rfl) ?_
          refine lv_iload_n hx hb dX0_runMinute_59 rfl (lv_at hl 2 rfl) ?_
          have hc := c_X0_nextTemperature l D cI cZ cO cJ a b (mFl z (mT1 am T Lo Ef (nS gp gi T E Dm F S C la Se Ef dl)) T) (nE T E Se) (nD gp gi T E Dm F Se Ef) F (nS gp gi T E Dm F S C la Se Ef dl) (nC gp gi T E Dm F C la Se Ef) ((la + 1) % 9) Lo Se Ef gp gi am li dl z H.size (by omega)
          rw [mFl_at] at hc
          refine kCallW_i (W1 := wH cI cZ cO a b (mFl z (mT1 am T Lo Ef (nS gp gi T E Dm F S C la Se Ef dl)) T) (nE T E Se) (nD gp gi T E Dm F Se Ef) F (nS gp gi T E Dm F S C la Se Ef dl) (nC gp gi T E Dm F C la Se Ef) ((la + 1) % 9) Lo Se Ef gp gi am li dl) hD hS hA rfl (va_runV (As := [.ref (b 0), .int (nI z)]) (rest := [.int (nI z), .ref (a 1)]) ⟨hx, hb, hml, hown, hts⟩ (hc) (cwV (rm := rmX0_nextTemperature) 2 hts gX0_runMinute_X0_nextTemperature rfl rfl rfl (by decide +kernel) ⟨Nat.le_of_ble_eq_true rfl, Nat.le_of_ble_eq_true rfl⟩) (kPreVW hK hN hP hD (va_recv hK hP (ci := 0) (q0 := 0) rfl rfl)) rfl rfl hl.1 rfl (lv_room (Nat.le_of_ble_eq_true rfl)) dX0_runMinute_60 ⟨Nat.zero_le _, Nat.zero_le _⟩) (fun H locs hP hD hS => ?_)
          refine k_iast hx hb hK hP hD hS 1 0 rfl rfl (i := z) (x := mTn (T z) (Lo z) am (mCo Ef (nS gp gi T E Dm F S C la Se Ef dl) z 8)) (by omega) (by decide) dX0_runMinute_63 (fun H locs hP hD hS => ?_)
          have hP : va_P D vwCl (wH cI cZ cO a b (upd (mFl z (mT1 am T Lo Ef (nS gp gi T E Dm F S C la Se Ef dl)) T) z (mTn (T z) (Lo z) am (mCo Ef (nS gp gi T E Dm F S C la Se Ef dl) z 8))) (nE T E Se) (nD gp gi T E Dm F Se Ef) F (nS gp gi T E Dm F S C la Se Ef dl) (nC gp gi T E Dm F C la Se Ef) ((la + 1) % 9) Lo Se Ef gp gi am li dl) H := hP
          have hD : va_D A (wH cI cZ cO a b (upd (mFl z (mT1 am T Lo Ef (nS gp gi T E Dm F S C la Se Ef dl)) T) z (mTn (T z) (Lo z) am (mCo Ef (nS gp gi T E Dm F S C la Se Ef dl) z 8))) (nE T E Se) (nD gp gi T E Dm F Se Ef) F (nS gp gi T E Dm F S C la Se Ef dl) (nC gp gi T E Dm F C la Se Ef) ((la + 1) % 9) Lo Se Ef gp gi am li dl) := hD
          have hP : va_P D vwCl (wH cI cZ cO a b (mFl (z + 1) (mT1 am T Lo Ef (nS gp gi T E Dm F S C la Se Ef dl)) T) (nE T E Se) (nD gp gi T E Dm F Se Ef) F (nS gp gi T E Dm F S C la Se Ef dl) (nC gp gi T E Dm F C la Se Ef) ((la + 1) % 9) Lo Se Ef gp gi am li dl) H := by rw [← mFl_up z (mT1 am T Lo Ef (nS gp gi T E Dm F S C la Se Ef dl)) T]; exact hP
          have hD : va_D A (wH cI cZ cO a b (mFl (z + 1) (mT1 am T Lo Ef (nS gp gi T E Dm F S C la Se Ef dl)) T) (nE T E Se) (nD gp gi T E Dm F Se Ef) F (nS gp gi T E Dm F S C la Se Ef dl) (nC gp gi T E Dm F C la Se Ef) ((la + 1) % 9) Lo Se Ef gp gi am li dl) := by rw [← mFl_up z (mT1 am T Lo Ef (nS gp gi T E Dm F S C la Se Ef dl)) T]; exact hD
          refine lv_iinc (v := nI (z + 1)) (lv' := [(2, .int (nI (z + 1))), (0, .ref (a 0)), (1, .ref (b 0))]) hx hb dX0_runMinute_64 hl (k := 2) rfl (k_inc _) (by decide) rfl (fun ls hl => ?_)
          refine lv_goto (tgt := 46) hx hb dX0_runMinute_67 (by decide) ?_
          exact ih (z + 1) (by omega) H locs hP hD hS ls (lv_sub hl [1, 2, 0] rfl)
      exact lq 6 0 rfl H locs (by simp only [mFl_0]; exact hP) (by simp only [mFl_0]; exact hD) hS ls (lv_sub hl [1, 2, 0] rfl)
    | succ n ih =>
      intro z hz H locs hP hD hS ls hl
      have hzb : z < 6 := by omega
      refine lv_iload_n hx hb dX0_runMinute_2 rfl (lv_at hl 2 rfl) ?_
      refine lv_bipush (v := nI 6) hx hb dX0_runMinute_3 (by decide +kernel) ?_
      refine lv_icmp_ge (tgt := 34) hx hb dX0_runMinute_5 (by decide) (fun c9 => absurd c9 (nI_ge hzb (by decide))) (fun _ => ?_)
      refine lv_aload_n hx hb dX0_runMinute_8 rfl (lv_at hl 0 rfl) ?_
      refine lv_aload_n hx hb dX0_runMinute_9 rfl (lv_at hl 1 rfl) ?_
      refine lv_iload_n hx hb dX0_runMinute_10 rfl (lv_at hl 2 rfl) ?_
      have hc := c_X0_control l D cI cZ cO cJ a b T (mFl z (mE1 T E Se) E) (mFl z (mD1 gp gi T E Se F Ef) Dm) F S C la Lo Se Ef gp gi am li dl z H.size (by omega)
      rw [mFl_at] at hc
      refine kCallW_i (W1 := wH cI cZ cO a b T (upd (mFl z (mE1 T E Se) E) z (mEr (T z) (E z) (Se z))) (mFl z (mD1 gp gi T E Se F Ef) Dm) F S C la Lo Se Ef gp gi am li dl) hD hS hA rfl (va_runV (As := [.ref (b 0), .int (nI z)]) (rest := []) ⟨hx, hb, hml, hown, hts⟩ (hc) (cwV (rm := rmX0_control) 2 hts gX0_runMinute_X0_control rfl rfl rfl (by decide +kernel) ⟨Nat.le_of_ble_eq_true rfl, Nat.le_of_ble_eq_true rfl⟩) (kPreVW hK hN hP hD (va_recv hK hP (ci := 0) (q0 := 0) rfl rfl)) rfl rfl hl.1 rfl (lv_room (Nat.le_of_ble_eq_true rfl)) dX0_runMinute_11 ⟨Nat.zero_le _, Nat.zero_le _⟩) (fun H locs hP hD hS => ?_)
      have hP : va_P D vwCl (wH cI cZ cO a b T (mFl (z + 1) (mE1 T E Se) E) (mFl z (mD1 gp gi T E Se F Ef) Dm) F S C la Lo Se Ef gp gi am li dl) H := by rw [← mFl_up z (mE1 T E Se) E]; exact hP
      have hD : va_D A (wH cI cZ cO a b T (mFl (z + 1) (mE1 T E Se) E) (mFl z (mD1 gp gi T E Se F Ef) Dm) F S C la Lo Se Ef gp gi am li dl) := by rw [← mFl_up z (mE1 T E Se) E]; exact hD
      refine lv_istore_n (lv' := [(3, .int (mWa gp gi (T z) (Se z) (mEr (T z) (E z) (Se z)))), (0, .ref (a 0)), (1, .ref (b 0)), (2, .int (nI z))]) hx hb dX0_runMinute_14 rfl hl (by decide) rfl (fun ls hl => ?_)
      refine lv_aload_n hx hb dX0_runMinute_15 rfl (lv_at hl 1 rfl) ?_
      refine va_get (D := D) (ci := 0) (v := .ref (a 3)) (C := RX0) (T := TX0) (N := 7) hx hb hts hi_X0 hown hK hP 0 rfl rfl 2 (by decide) (hts (.fieldLink RX0 18 "Coldaisle$Hall" "demand" "[I") (by decide +kernel)) (fun _ h9 => h9) rfl dX0_runMinute_16 ?_
      refine lv_iload_n hx hb dX0_runMinute_19 rfl (lv_at hl 3 rfl) ?_
      refine lv_aload_n hx hb dX0_runMinute_20 rfl (lv_at hl 1 rfl) ?_
      refine lv_aload_n hx hb dX0_runMinute_21 rfl (lv_at hl 2 rfl) ?_
      refine lv_iload_n hx hb dX0_runMinute_22 rfl (lv_at hl 3 rfl) ?_
      refine lv_iload_n hx hb dX0_runMinute_23 rfl (lv_at hl 0 rfl) ?_
      refine kCallW_i (W1 := wH cI cZ cO a b T (mFl (z + 1) (mE1 T E Se) E) (mFl z (mD1 gp gi T E Se F Ef) Dm) F S C la Lo Se Ef gp gi am li dl) hD hS hA rfl (va_runV (As := [.ref (b 0), .int (nI z), .int (mWa gp gi (T z) (Se z) (mEr (T z) (E z) (Se z)))]) (rest := [.int (nI z), .ref (a 3)]) ⟨hx, hb, hml, hown, hts⟩ (c_X0_raiseForFailures l D cI cZ cO cJ a b T (mFl (z + 1) (mE1 T E Se) E) (mFl z (mD1 gp gi T E Se F Ef) Dm) F S C la Lo Se Ef gp gi am li dl z (mWa gp gi (T z) (Se z) (mEr (T z) (E z) (Se z))) H.size (by omega)) (cwV (rm := rmX0_raiseForFailures) 3 hts gX0_runMinute_X0_raiseForFailures rfl rfl rfl (by decide +kernel) ⟨Nat.le_of_ble_eq_true rfl, Nat.le_of_ble_eq_true rfl⟩) (kPreVW hK hN hP hD (va_recv hK hP (ci := 0) (q0 := 0) rfl rfl)) rfl rfl hl.1 rfl (lv_room (Nat.le_of_ble_eq_true rfl)) dX0_runMinute_24 ⟨Nat.zero_le _, Nat.zero_le _⟩) (fun H locs hP hD hS => ?_)
      refine k_iast hx hb hK hP hD hS 3 0 rfl rfl (i := z) (x := mRa F (fun f => Ef f z) (mWa gp gi (T z) (Se z) (mEr (T z) (E z) (Se z)))) (by omega) (by decide) dX0_runMinute_27 (fun H locs hP hD hS => ?_)
      have hP : va_P D vwCl (wH cI cZ cO a b T (mFl (z + 1) (mE1 T E Se) E) (upd (mFl z (mD1 gp gi T E Se F Ef) Dm) z (mRa F (fun f => Ef f z) (mWa gp gi (T z) (Se z) (mEr (T z) (E z) (Se z))))) F S C la Lo Se Ef gp gi am li dl) H := hP
      have hD : va_D A (wH cI cZ cO a b T (mFl (z + 1) (mE1 T E Se) E) (upd (mFl z (mD1 gp gi T E Se F Ef) Dm) z (mRa F (fun f => Ef f z) (mWa gp gi (T z) (Se z) (mEr (T z) (E z) (Se z))))) F S C la Lo Se Ef gp gi am li dl) := hD
      have hP : va_P D vwCl (wH cI cZ cO a b T (mFl (z + 1) (mE1 T E Se) E) (mFl (z + 1) (mD1 gp gi T E Se F Ef) Dm) F S C la Lo Se Ef gp gi am li dl) H := by rw [← mFl_up z (mD1 gp gi T E Se F Ef) Dm]; exact hP
      have hD : va_D A (wH cI cZ cO a b T (mFl (z + 1) (mE1 T E Se) E) (mFl (z + 1) (mD1 gp gi T E Se F Ef) Dm) F S C la Lo Se Ef gp gi am li dl) := by rw [← mFl_up z (mD1 gp gi T E Se F Ef) Dm]; exact hD
      refine lv_iinc (v := nI (z + 1)) (lv' := [(2, .int (nI (z + 1))), (3, .int (mWa gp gi (T z) (Se z) (mEr (T z) (E z) (Se z)))), (0, .ref (a 0)), (1, .ref (b 0))]) hx hb dX0_runMinute_28 hl (k := 3) rfl (k_inc _) (by decide) rfl (fun ls hl => ?_)
      refine lv_goto (tgt := 2) hx hb dX0_runMinute_31 (by decide) ?_
      exact ih (z + 1) (by omega) H locs hP hD hS ls (lv_sub hl [2, 3, 0] rfl)
  exact lp 6 0 rfl H [] (by simp only [mFl_0]; exact hP) (by simp only [mFl_0]; exact hD) hS ls (lv_sub hl [1, 2, 0] rfl)

