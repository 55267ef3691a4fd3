abbrev rmX3_isIn : Room := { frames := 0, cells := 0, slots := 0, locals := 0 }
set_option maxHeartbeats 4000000 in
set_option maxRecDepth 100000 in
theorem c_X3_isIn_ok (l : Launch) (D : va_G) (cI cZ cO cJ : ClassId) (v lo hi : Int32) (sz : Nat) (h : inR v lo hi) : kMi l yX3_isIn wsX3_isIn rmX3_isIn D (kT cI cZ cO cJ) [.int v, .int lo, .int hi] ([]) ([]) sz (nI 1) := by
  refine kEnter (cc := cX3_isIn) (maxL := 3) (ret := some .boolean) (by decide +kernel) rfl (Nat.le_of_ble_eq_true rfl) ?_
  intro p e s m below meth c args hx hb hr hml hts hown hlocks hin hK hN A hA9 Q hQ9 hP hD hsz hS hA ls hl
  have hl : lv_has ls 3 [(0, .int v), (1, .int lo), (2, .int hi)] := hl
  obtain ⟨H, hH9⟩ : ∃ H, H = s.heap := ⟨_, rfl⟩
  rw [← hH9] at hP ⊢
  have hS : va_S A s.heap H [] := by rw [hH9]; exact va_S.rf
  refine lv_iload_n hx hb dX3_isIn_0 rfl (lv_at hl 0 rfl) ?_
  refine lv_iload_n hx hb dX3_isIn_1 rfl (lv_at hl 1 rfl) ?_
  refine lv_icmp_lt (tgt := 14) hx hb dX3_isIn_2 (by decide) (fun c9 => absurd c9 h.1) (fun _ => ?_)
  refine lv_iload_n hx hb dX3_isIn_5 rfl (lv_at hl 0 rfl) ?_
  refine lv_iload_n hx hb dX3_isIn_6 rfl (lv_at hl 2 rfl) ?_
  refine lv_icmp_gt (tgt := 14) hx hb dX3_isIn_7 (by decide) (fun c9 => absurd c9 (inR_hi h)) (fun _ => ?_)
  refine lv_iconst (v := nI 1) hx hb dX3_isIn_10 (by decide +kernel) ?_
  refine lv_goto (tgt := 15) hx hb dX3_isIn_11 (by decide) ?_
  subst hQ9
  subst hA9
  exact kRet_z hx hb hr hlocks hP hS dX3_isIn_15 rfl (by decide +kernel)

set_option maxHeartbeats 4000000 in
set_option maxRecDepth 100000 in
theorem c_X3_isIn_bad (l : Launch) (D : va_G) (cI cZ cO cJ : ClassId) (v lo hi : Int32) (sz : Nat) (h : ¬ inR v lo hi) : kMi l yX3_isIn wsX3_isIn rmX3_isIn D (kT cI cZ cO cJ) [.int v, .int lo, .int hi] ([]) ([]) sz (nI 0) := by
  refine kEnter (cc := cX3_isIn) (maxL := 3) (ret := some .boolean) (by decide +kernel) rfl (Nat.le_of_ble_eq_true rfl) ?_
  intro p e s m below meth c args hx hb hr hml hts hown hlocks hin hK hN A hA9 Q hQ9 hP hD hsz hS hA ls hl
  have hl : lv_has ls 3 [(0, .int v), (1, .int lo), (2, .int hi)] := hl
  obtain ⟨H, hH9⟩ : ∃ H, H = s.heap := ⟨_, rfl⟩
  rw [← hH9] at hP ⊢
  have hS : va_S A s.heap H [] := by rw [hH9]; exact va_S.rf
  refine lv_iload_n hx hb dX3_isIn_0 rfl (lv_at hl 0 rfl) ?_
  refine lv_iload_n hx hb dX3_isIn_1 rfl (lv_at hl 1 rfl) ?_
  refine lv_icmp_lt (tgt := 14) hx hb dX3_isIn_2 (by decide) (fun c1 => ?_) (fun c1 => ?_)
  · refine lv_iconst (v := nI 0) hx hb dX3_isIn_14 (by decide +kernel) ?_
    subst hQ9
    subst hA9
    exact kRet_z hx hb hr hlocks hP hS dX3_isIn_15 rfl (by decide +kernel)
  · refine lv_iload_n hx hb dX3_isIn_5 rfl (lv_at hl 0 rfl) ?_
    refine lv_iload_n hx hb dX3_isIn_6 rfl (lv_at hl 2 rfl) ?_
    refine lv_icmp_gt (tgt := 14) hx hb dX3_isIn_7 (by decide) (fun _ => ?_) (fun c9 => absurd (Int32.not_le.mp (fun q => h ⟨c1, q⟩)) c9)
    refine lv_iconst (v := nI 0) hx hb dX3_isIn_14 (by decide +kernel) ?_
    subst hQ9
    subst hA9
    exact kRet_z hx hb hr hlocks hP hS dX3_isIn_15 rfl (by decide +kernel)

abbrev rmX3_isZone : Room := { frames := 1, cells := 0, slots := 0, locals := 22 }
set_option maxHeartbeats 4000000 in
set_option maxRecDepth 100000 in
theorem c_X3_isZone_ok (l : Launch) (D : va_G) (cI cZ cO cJ : ClassId) (v : Int32) (sz : Nat) (h : inR v (nI 0) (nI 5)) : kMi l yX3_isZone wsX3_isZone rmX3_isZone D (kT cI cZ cO cJ) [.int v] ([]) ([]) sz (nI 1) := by
  refine kEnter (cc := cX3_isZone) (maxL := 1) (ret := some .boolean) (by decide +kernel) rfl (Nat.le_of_ble_eq_true rfl) ?_
  intro p e s m below meth c args hx hb hr hml hts hown hlocks hin hK hN A hA9 Q hQ9 hP hD hsz hS hA ls hl
  have hl : lv_has ls 1 [(0, .int v)] := hl
  obtain ⟨H, hH9⟩ : ∃ H, H = s.heap := ⟨_, rfl⟩
  rw [← hH9] at hP ⊢
  have hS : va_S A s.heap H [] := by rw [hH9]; exact va_S.rf
  refine lv_iload_n hx hb dX3_isZone_0 rfl (lv_at hl 0 rfl) ?_
  refine lv_iconst (v := nI 0) hx hb dX3_isZone_1 (by decide +kernel) ?_
  refine lv_iconst (v := nI 5) hx hb dX3_isZone_2 (by decide +kernel) ?_
  refine kCall_i (W0 := []) (W1 := []) hP hD hS hA [] rfl rfl (va_runS (As := [.int v, .int (nI 0), .int (nI 5)]) (rest := []) ⟨hx, hb, hml, hown, hts⟩ (c_X3_isIn_ok l D cI cZ cO cJ v (nI 0) (nI 5) H.size h) (va_cwS (rm := rmX3_isIn) 3 hts gX3_isZone_X3_isIn rfl rfl rfl (by decide +kernel) ⟨Nat.le_of_ble_eq_true rfl, Nat.le_of_ble_eq_true rfl⟩) (kPreS hK hN hP hD [] rfl rfl) rfl rfl hl.1 rfl (lv_room (Nat.le_of_ble_eq_true rfl)) dX3_isZone_3 ⟨Nat.zero_le _, Nat.zero_le _⟩) (fun H locs hP hD hS => ?_)
  have hP : va_P D vwCl ([]) H := hP
  have hD : va_D A ([]) := hD
  subst hQ9
  subst hA9
  exact kRet_z hx hb hr hlocks hP hS dX3_isZone_6 rfl (by decide +kernel)

set_option maxHeartbeats 4000000 in
set_option maxRecDepth 100000 in
theorem c_X3_isZone_bad (l : Launch) (D : va_G) (cI cZ cO cJ : ClassId) (v : Int32) (sz : Nat) (h : ¬ inR v (nI 0) (nI 5)) : kMi l yX3_isZone wsX3_isZone rmX3_isZone D (kT cI cZ cO cJ) [.int v] ([]) ([]) sz (nI 0) := by
  refine kEnter (cc := cX3_isZone) (maxL := 1) (ret := some .boolean) (by decide +kernel) rfl (Nat.le_of_ble_eq_true rfl) ?_
  intro p e s m below meth c args hx hb hr hml hts hown hlocks hin hK hN A hA9 Q hQ9 hP hD hsz hS hA ls hl
  have hl : lv_has ls 1 [(0, .int v)] := hl
  obtain ⟨H, hH9⟩ : ∃ H, H = s.heap := ⟨_, rfl⟩
  rw [← hH9] at hP ⊢
  have hS : va_S A s.heap H [] := by rw [hH9]; exact va_S.rf
  refine lv_iload_n hx hb dX3_isZone_0 rfl (lv_at hl 0 rfl) ?_
  refine lv_iconst (v := nI 0) hx hb dX3_isZone_1 (by decide +kernel) ?_
  refine lv_iconst (v := nI 5) hx hb dX3_isZone_2 (by decide +kernel) ?_
  refine kCall_i (W0 := []) (W1 := []) hP hD hS hA [] rfl rfl (va_runS (As := [.int v, .int (nI 0), .int (nI 5)]) (rest := []) ⟨hx, hb, hml, hown, hts⟩ (c_X3_isIn_bad l D cI cZ cO cJ v (nI 0) (nI 5) H.size h) (va_cwS (rm := rmX3_isIn) 3 hts gX3_isZone_X3_isIn rfl rfl rfl (by decide +kernel) ⟨Nat.le_of_ble_eq_true rfl, Nat.le_of_ble_eq_true rfl⟩) (kPreS hK hN hP hD [] rfl rfl) rfl rfl hl.1 rfl (lv_room (Nat.le_of_ble_eq_true rfl)) dX3_isZone_3 ⟨Nat.zero_le _, Nat.zero_le _⟩) (fun H locs hP hD hS => ?_)
  have hP : va_P D vwCl ([]) H := hP
  have hD : va_D A ([]) := hD
  subst hQ9
  subst hA9
  exact kRet_z hx hb hr hlocks hP hS dX3_isZone_6 rfl (by decide +kernel)

abbrev rmX3_isFan : Room := { frames := 1, cells := 0, slots := 0, locals := 22 }
set_option maxHeartbeats 4000000 in
set_option maxRecDepth 100000 in
theorem c_X3_isFan_ok (l : Launch) (D : va_G) (cI cZ cO cJ : ClassId) (v : Int32) (sz : Nat) (h : inR v (nI 0) (nI 7)) : kMi l yX3_isFan wsX3_isFan rmX3_isFan D (kT cI cZ cO cJ) [.int v] ([]) ([]) sz (nI 1) := by
  refine kEnter (cc := cX3_isFan) (maxL := 1) (ret := some .boolean) (by decide +kernel) rfl (Nat.le_of_ble_eq_true rfl) ?_
  intro p e s m below meth c args hx hb hr hml hts hown hlocks hin hK hN A hA9 Q hQ9 hP hD hsz hS hA ls hl
  have hl : lv_has ls 1 [(0, .int v)] := hl
  obtain ⟨H, hH9⟩ : ∃ H, H = s.heap := ⟨_, rfl⟩
  rw [← hH9] at hP ⊢
  have hS : va_S A s.heap H [] := by rw [hH9]; exact va_S.rf
  refine lv_iload_n hx hb dX3_isFan_0 rfl (lv_at hl 0 rfl) ?_
  refine lv_iconst (v := nI 0) hx hb dX3_isFan_1 (by decide +kernel) ?_
  refine lv_bipush (v := nI 7) hx hb dX3_isFan_2 (by decide +kernel) ?_
  refine kCall_i (W0 := []) (W1 := []) hP hD hS hA [] rfl rfl (va_runS (As := [.int v, .int (nI 0), .int (nI 7)]) (rest := []) ⟨hx, hb, hml, hown, hts⟩ (c_X3_isIn_ok l D cI cZ cO cJ v (nI 0) (nI 7) H.size h) (va_cwS (rm := rmX3_isIn) 3 hts gX3_isFan_X3_isIn rfl rfl rfl (by decide +kernel) ⟨Nat.le_of_ble_eq_true rfl, Nat.le_of_ble_eq_true rfl⟩) (kPreS hK hN hP hD [] rfl rfl) rfl rfl hl.1 rfl (lv_room (Nat.le_of_ble_eq_true rfl)) dX3_isFan_4 ⟨Nat.zero_le _, Nat.zero_le _⟩) (fun H locs hP hD hS => ?_)
  have hP : va_P D vwCl ([]) H := hP
  have hD : va_D A ([]) := hD
  subst hQ9
  subst hA9
  exact kRet_z hx hb hr hlocks hP hS dX3_isFan_7 rfl (by decide +kernel)

set_option maxHeartbeats 4000000 in
set_option maxRecDepth 100000 in
theorem c_X3_isFan_bad (l : Launch) (D : va_G) (cI cZ cO cJ : ClassId) (v : Int32) (sz : Nat) (h : ¬ inR v (nI 0) (nI 7)) : kMi l yX3_isFan wsX3_isFan rmX3_isFan D (kT cI cZ cO cJ) [.int v] ([]) ([]) sz (nI 0) := by
  refine kEnter (cc := cX3_isFan) (maxL := 1) (ret := some .boolean) (by decide +kernel) rfl (Nat.le_of_ble_eq_true rfl) ?_
  intro p e s m below meth c args hx hb hr hml hts hown hlocks hin hK hN A hA9 Q hQ9 hP hD hsz hS hA ls hl
  have hl : lv_has ls 1 [(0, .int v)] := hl
  obtain ⟨H, hH9⟩ : ∃ H, H = s.heap := ⟨_, rfl⟩
  rw [← hH9] at hP ⊢
  have hS : va_S A s.heap H [] := by rw [hH9]; exact va_S.rf
  refine lv_iload_n hx hb dX3_isFan_0 rfl (lv_at hl 0 rfl) ?_
  refine lv_iconst (v := nI 0) hx hb dX3_isFan_1 (by decide +kernel) ?_
  refine lv_bipush (v := nI 7) hx hb dX3_isFan_2 (by decide +kernel) ?_
  refine kCall_i (W0 := []) (W1 := []) hP hD hS hA [] rfl rfl (va_runS (As := [.int v, .int (nI 0), .int (nI 7)]) (rest := []) ⟨hx, hb, hml, hown, hts⟩ (c_X3_isIn_bad l D cI cZ cO cJ v (nI 0) (nI 7) H.size h) (va_cwS (rm := rmX3_isIn) 3 hts gX3_isFan_X3_isIn rfl rfl rfl (by decide +kernel) ⟨Nat.le_of_ble_eq_true rfl, Nat.le_of_ble_eq_true rfl⟩) (kPreS hK hN hP hD [] rfl rfl) rfl rfl hl.1 rfl (lv_room (Nat.le_of_ble_eq_true rfl)) dX3_isFan_4 ⟨Nat.zero_le _, Nat.zero_le _⟩) (fun H locs hP hD hS => ?_)
  have hP : va_P D vwCl ([]) H := hP
  have hD : va_D A ([]) := hD
  subst hQ9
  subst hA9
  exact kRet_z hx hb hr hlocks hP hS dX3_isFan_7 rfl (by decide +kernel)

abbrev rmX3_part : Room := { frames := 0, cells := 0, slots := 0, locals := 0 }
set_option maxHeartbeats 4000000 in
set_option maxRecDepth 100000 in
theorem c_X3_part (l : Launch) (D : va_G) (cI cZ cO cJ : ClassId) (v y9 : Int32) (sz : Nat) (hy : ¬ y9 = 0) : kMi l yX3_part wsX3_part rmX3_part D (kT cI cZ cO cJ) [.int v, .int y9] ([]) ([]) sz (qPart v y9) := by
  refine kEnter (cc := cX3_part) (maxL := 2) (ret := some .int) (by decide +kernel) rfl (Nat.le_of_ble_eq_true rfl) ?_
  intro p e s m below meth c args hx hb hr hml hts hown hlocks hin hK hN A hA9 Q hQ9 hP hD hsz hS hA ls hl
  have hl : lv_has ls 2 [(0, .int v), (1, .int y9)] := hl
  obtain ⟨H, hH9⟩ : ∃ H, H = s.heap := ⟨_, rfl⟩
  rw [← hH9] at hP ⊢
  have hS : va_S A s.heap H [] := by rw [hH9]; exact va_S.rf
  refine lv_iload_n hx hb dX3_part_0 rfl (lv_at hl 0 rfl) ?_
  refine lv_if_lt (tgt := 10) hx hb dX3_part_1 (by decide) (fun c1 => ?_) (fun c1 => ?_)
  · refine lv_iload_n hx hb dX3_part_10 rfl (lv_at hl 1 rfl) ?_
    refine lv_iconst (v := nI 1) hx hb dX3_part_11 (by decide +kernel) ?_
    refine lv_isub hx hb dX3_part_12 ?_
    refine lv_iload_n hx hb dX3_part_13 rfl (lv_at hl 0 rfl) ?_
    refine lv_isub hx hb dX3_part_14 ?_
    refine lv_iload_n hx hb dX3_part_15 rfl (lv_at hl 1 rfl) ?_
    refine lv_idiv hx hb dX3_part_16 hy ?_
    refine lv_ineg hx hb dX3_part_17 ?_
    subst hQ9
    subst hA9
    exact kRet_i hx hb hr hlocks hP hS dX3_part_18 (by unfold qPart; rw [if_pos c1])
  · refine lv_iload_n hx hb dX3_part_4 rfl (lv_at hl 0 rfl) ?_
    refine lv_iload_n hx hb dX3_part_5 rfl (lv_at hl 1 rfl) ?_
    refine lv_idiv hx hb dX3_part_6 hy ?_
    refine lv_goto (tgt := 18) hx hb dX3_part_7 (by decide) ?_
    subst hQ9
    subst hA9
    exact kRet_i hx hb hr hlocks hP hS dX3_part_18 (by unfold qPart; rw [if_neg c1])

abbrev rmX3_held : Room := { frames := 0, cells := 0, slots := 0, locals := 0 }
set_option maxHeartbeats 4000000 in
set_option maxRecDepth 100000 in
theorem c_X3_held (l : Launch) (D : va_G) (cI cZ cO cJ : ClassId) (v lo hi : Int32) (sz : Nat) : kMi l yX3_held wsX3_held rmX3_held D (kT cI cZ cO cJ) [.int v, .int lo, .int hi] ([]) ([]) sz (qHeld v lo hi) := by
  refine kEnter (cc := cX3_held) (maxL := 3) (ret := some .int) (by decide +kernel) rfl (Nat.le_of_ble_eq_true rfl) ?_
  intro p e s m below meth c args hx hb hr hml hts hown hlocks hin hK hN A hA9 Q hQ9 hP hD hsz hS hA ls hl
  have hl : lv_has ls 3 [(0, .int v), (1, .int lo), (2, .int hi)] := hl
  obtain ⟨H, hH9⟩ : ∃ H, H = s.heap := ⟨_, rfl⟩
  rw [← hH9] at hP ⊢
  have hS : va_S A s.heap H [] := by rw [hH9]; exact va_S.rf
  refine lv_iload_n hx hb dX3_held_0 rfl (lv_at hl 0 rfl) ?_
  refine lv_iload_n hx hb dX3_held_1 rfl (lv_at hl 1 rfl) ?_
  refine lv_icmp_ge (tgt := 9) hx hb dX3_held_2 (by decide) (fun c1 => ?_) (fun c1 => ?_)
  · refine lv_iload_n hx hb dX3_held_9 rfl (lv_at hl 0 rfl) ?_
    refine lv_iload_n hx hb dX3_held_10 rfl (lv_at hl 2 rfl) ?_
    refine lv_icmp_le (tgt := 18) hx hb dX3_held_11 (by decide) (fun c2 => ?_) (fun c2 => ?_)
    · refine lv_iload_n hx hb dX3_held_18 rfl (lv_at hl 0 rfl) ?_
      subst hQ9
      subst hA9
      exact kRet_i hx hb hr hlocks hP hS dX3_held_19 (by unfold qHeld; rw [if_pos c1, if_pos c2])
    · refine lv_iload_n hx hb dX3_held_14 rfl (lv_at hl 2 rfl) ?_
      refine lv_goto (tgt := 19) hx hb dX3_held_15 (by decide) ?_
      subst hQ9
      subst hA9
      exact kRet_i hx hb hr hlocks hP hS dX3_held_19 (by unfold qHeld; rw [if_pos c1, if_neg c2])
  · refine lv_iload_n hx hb dX3_held_5 rfl (lv_at hl 1 rfl) ?_
    refine lv_goto (tgt := 19) hx hb dX3_held_6 (by decide) ?_
    subst hQ9
    subst hA9
    exact kRet_i hx hb hr hlocks hP hS dX3_held_19 (by unfold qHeld; rw [if_neg c1])

abbrev rmX3_commandAt : Room := { frames := 0, cells := 0, slots := 0, locals := 0 }
set_option maxHeartbeats 4000000 in
set_option maxRecDepth 100000 in
theorem c_X3_commandAt (l : Launch) (D : va_G) (cI cZ cO cJ : ClassId) (h f mi : Nat) (sz : Nat) (hmi : mi < 2 ^ 31) : kMi l yX3_commandAt wsX3_commandAt rmX3_commandAt D (kT cI cZ cO cJ) [.int (nI h), .int (nI f), .int (nI mi)] ([]) ([]) sz (nI (9 * (8 * h + f) + mi % 9)) := by
  refine kEnter (cc := cX3_commandAt) (maxL := 3) (ret := some .int) (by decide +kernel) rfl (Nat.le_of_ble_eq_true rfl) ?_
  intro p e s m below meth c args hx hb hr hml hts hown hlocks hin hK hN A hA9 Q hQ9 hP hD hsz hS hA ls hl
  have hl : lv_has ls 3 [(0, .int (nI h)), (1, .int (nI f)), (2, .int (nI mi))] := hl
  obtain ⟨H, hH9⟩ : ∃ H, H = s.heap := ⟨_, rfl⟩
  rw [← hH9] at hP ⊢
  have hS : va_S A s.heap H [] := by rw [hH9]; exact va_S.rf
  refine lv_bipush (v := nI 9) hx hb dX3_commandAt_0 (by decide +kernel) ?_
  refine lv_bipush (v := nI 8) hx hb dX3_commandAt_2 (by decide +kernel) ?_
  refine lv_iload_n hx hb dX3_commandAt_4 rfl (lv_at hl 0 rfl) ?_
  refine lv_imul hx hb dX3_commandAt_5 ?_
  refine k_as (pk_mul _ _) ?_
  refine lv_iload_n hx hb dX3_commandAt_6 rfl (lv_at hl 1 rfl) ?_
  refine lv_iadd hx hb dX3_commandAt_7 ?_
  refine k_as (nI_add _ _) ?_
  refine lv_imul hx hb dX3_commandAt_8 ?_
  refine k_as (pk_mul _ _) ?_
  refine lv_iload_n hx hb dX3_commandAt_9 rfl (lv_at hl 2 rfl) ?_
  refine lv_bipush (v := nI 9) hx hb dX3_commandAt_10 (by decide +kernel) ?_
  refine lv_irem hx hb dX3_commandAt_12 (by decide +kernel) ?_
  refine k_as (pk_rem hmi (by decide) (by decide)) ?_
  refine lv_iadd hx hb dX3_commandAt_13 ?_
  refine k_as (nI_add _ _) ?_
  subst hQ9
  subst hA9
  exact kRet_i hx hb hr hlocks hP hS dX3_commandAt_14 rfl

abbrev rmX3_thrown : Room := { frames := 0, cells := 0, slots := 0, locals := 0 }
set_option maxHeartbeats 4000000 in
set_option maxRecDepth 100000 in
/-- thrown -/
theorem c_X3_thrown (l : Launch) (D : va_G) (cI cZ cO cJ : ClassId) (y : Nat → Nat) (Lo Se Ef : Nat → Int32) (gp gi am li : Int32) (dl : Nat) (ck : Nat → Nat) (T Su Dm F Sp C Ho : Nat → Int32) (th : Int32) (sz : Nat) : kMi l yX3_thrown wsX3_thrown rmX3_thrown D (kT cI cZ cO cJ) [.ref (y 0)] (wM cI cZ y Lo Se Ef gp gi am li dl ck T Su Dm F Sp C Ho th) (wM cI cZ y Lo Se Ef gp gi am li dl ck T Su Dm F Sp C Ho th) sz (th) := by
  refine kEnter (cc := cX3_thrown) (maxL := 1) (ret := some .int) (by decide +kernel) rfl (Nat.le_of_ble_eq_true rfl) ?_
  intro p e s m below meth c args hx hb hr hml hts hown hlocks hin hK hN A hA9 Q hQ9 hP hD hsz hS hA ls hl
  have hl : lv_has ls 1 [(0, .ref (y 0))] := hl
  have hi_X3 : ∀ w ∈ u_ws RX3 TX3 17, w ∈ wsX3_thrown := by decide +kernel
  obtain ⟨H, hH9⟩ : ∃ H, H = s.heap := ⟨_, rfl⟩
  rw [← hH9] at hP ⊢
  have hS : va_S A s.heap H [] := by rw [hH9]; exact va_S.rf
  refine lv_aload_n hx hb dX3_thrown_0 rfl (lv_at hl 0 rfl) ?_
  refine va_get (D := D) (ci := 3) (v := .int th) (C := RX3) (T := TX3) (N := 17) hx hb hts hi_X3 hown hK hP 0 rfl rfl 16 (by decide) (hts (.fieldLink RX3 60 "ColdaisleModel" "thrown" "I") (by decide +kernel)) (fun _ h9 => h9) rfl dX3_thrown_1 ?_
  subst hQ9
  subst hA9
  exact kRet_i hx hb hr hlocks hP hS dX3_thrown_4 rfl

abbrev rmX3_goes : Room := { frames := 0, cells := 0, slots := 0, locals := 0 }
set_option maxHeartbeats 4000000 in
set_option maxRecDepth 100000 in
/-- goes_0 -/
theorem c_X3_goes_0 (l : Launch) (D : va_G) (cI cZ cO cJ : ClassId) (y : Nat → Nat) (Lo Se Ef : Nat → Int32) (gp gi am li : Int32) (dl : Nat) (ck : Nat → Nat) (T Su Dm F Sp C Ho : Nat → Int32) (th : Int32) (w : Int32) (sz : Nat) (hw : w = 0) : kMi l yX3_goes wsX3_goes rmX3_goes D (kT cI cZ cO cJ) [.ref (y 0), .int w] (wM cI cZ y Lo Se Ef gp gi am li dl ck T Su Dm F Sp C Ho th) (wM cI cZ y Lo Se Ef gp gi am li dl ck T Su Dm F Sp C Ho w) sz (nI 1) := by
  refine kEnter (cc := cX3_goes) (maxL := 2) (ret := some .boolean) (by decide +kernel) rfl (Nat.le_of_ble_eq_true rfl) ?_
  intro p e s m below meth c args hx hb hr hml hts hown hlocks hin hK hN A hA9 Q hQ9 hP hD hsz hS hA ls hl
  have hl : lv_has ls 2 [(0, .ref (y 0)), (1, .int w)] := hl
  have hi_X3 : ∀ w ∈ u_ws RX3 TX3 17, w ∈ wsX3_goes := by decide +kernel
  obtain ⟨H, hH9⟩ : ∃ H, H = s.heap := ⟨_, rfl⟩
  rw [← hH9] at hP ⊢
  have hS : va_S A s.heap H [] := by rw [hH9]; exact va_S.rf
  refine lv_aload_n hx hb dX3_goes_0 rfl (lv_at hl 0 rfl) ?_
  refine lv_iload_n hx hb dX3_goes_1 rfl (lv_at hl 1 rfl) ?_
  refine va_put (D := D) (ci := 3) (v := .int w) (ty := tyX3 16) (C := RX3) (T := TX3) (N := 17) hx hb hts hi_X3 tyX3 tyX3_ok nmX3 hown hK hP hD hS 0 rfl rfl 16 (by decide) (hts (.fieldLink RX3 60 "ColdaisleModel" "thrown" "I") (by decide +kernel)) (fun _ h9 => h9) rfl (by decide +kernel) rfl rfl (Nat.le_of_ble_eq_true rfl) dX3_goes_2 (fun H locs hP hD hS => ?_)
  have hP : va_P D vwCl (wM cI cZ y Lo Se Ef gp gi am li dl ck T Su Dm F Sp C Ho w) H := hP
  have hD : va_D A (wM cI cZ y Lo Se Ef gp gi am li dl ck T Su Dm F Sp C Ho w) := hD
  refine lv_iload_n hx hb dX3_goes_5 rfl (lv_at hl 1 rfl) ?_
  refine lv_if_ne (tgt := 13) hx hb dX3_goes_6 (by decide) (fun c9 => absurd hw c9) (fun _ => ?_)
  refine lv_iconst (v := nI 1) hx hb dX3_goes_9 (by decide +kernel) ?_
  refine lv_goto (tgt := 14) hx hb dX3_goes_10 (by decide) ?_
  subst hQ9
  subst hA9
  exact kRet_z hx hb hr hlocks hP hS dX3_goes_14 rfl (by decide +kernel)

set_option maxHeartbeats 4000000 in
set_option maxRecDepth 100000 in
/-- goes_1 -/
theorem c_X3_goes_1 (l : Launch) (D : va_G) (cI cZ cO cJ : ClassId) (y : Nat → Nat) (Lo Se Ef : Nat → Int32) (gp gi am li : Int32) (dl : Nat) (ck : Nat → Nat) (T Su Dm F Sp C Ho : Nat → Int32) (th : Int32) (w : Int32) (sz : Nat) (hw : ¬ w = 0) : kMi l yX3_goes wsX3_goes rmX3_goes D (kT cI cZ cO cJ) [.ref (y 0), .int w] (wM cI cZ y Lo Se Ef gp gi am li dl ck T Su Dm F Sp C Ho th) (wM cI cZ y Lo Se Ef gp gi am li dl ck T Su Dm F Sp C Ho w) sz (nI 0) := by
  refine kEnter (cc := cX3_goes) (maxL := 2) (ret := some .boolean) (by decide +kernel) rfl (Nat.le_of_ble_eq_true rfl) ?_
  intro p e s m below meth c args hx hb hr hml hts hown hlocks hin hK hN A hA9 Q hQ9 hP hD hsz hS hA ls hl
  have hl : lv_has ls 2 [(0, .ref (y 0)), (1, .int w)] := hl
  have hi_X3 : ∀ w ∈ u_ws RX3 TX3 17, w ∈ wsX3_goes := by decide +kernel
  obtain ⟨H, hH9⟩ : ∃ H, H = s.heap := ⟨_, rfl⟩
  rw [← hH9] at hP ⊢
  have hS : va_S A s.heap H [] := by rw [hH9]; exact va_S.rf
  refine lv_aload_n hx hb dX3_goes_0 rfl (lv_at hl 0 rfl) ?_
  refine lv_iload_n hx hb dX3_goes_1 rfl (lv_at hl 1 rfl) ?_
  refine va_put (D := D) (ci := 3) (v := .int w) (ty := tyX3 16) (C := RX3) (T := TX3) (N := 17) hx hb hts hi_X3 tyX3 tyX3_ok nmX3 hown hK hP hD hS 0 rfl rfl 16 (by decide) (hts (.fieldLink RX3 60 "ColdaisleModel" "thrown" "I") (by decide +kernel)) (fun _ h9 => h9) rfl (by decide +kernel) rfl rfl (Nat.le_of_ble_eq_true rfl) dX3_goes_2 (fun H locs hP hD hS => ?_)
  have hP : va_P D vwCl (wM cI cZ y Lo Se Ef gp gi am li dl ck T Su Dm F Sp C Ho w) H := hP
  have hD : va_D A (wM cI cZ y Lo Se Ef gp gi am li dl ck T Su Dm F Sp C Ho w) := hD
  refine lv_iload_n hx hb dX3_goes_5 rfl (lv_at hl 1 rfl) ?_
  refine lv_if_ne (tgt := 13) hx hb dX3_goes_6 (by decide) (fun _ => ?_) (fun c9 => absurd c9 hw)
  refine lv_iconst (v := nI 0) hx hb dX3_goes_13 (by decide +kernel) ?_
  subst hQ9
  subst hA9
  exact kRet_z hx hb hr hlocks hP hS dX3_goes_14 rfl (by decide +kernel)

abbrev rmX3_asks : Room := { frames := 2, cells := 0, slots := 0, locals := 42 }
set_option maxHeartbeats 4000000 in
set_option maxRecDepth 100000 in
/-- asks_ok -/
theorem c_X3_asks_ok (l : Launch) (D : va_G) (cI cZ cO cJ : ClassId) (y : Nat → Nat) (Lo Se Ef : Nat → Int32) (gp gi am li : Int32) (dl : Nat) (ck : Nat → Nat) (T Su Dm F Sp C Ho : Nat → Int32) (th : Int32) (v : Int32) (sz : Nat) (h : inR v (nI 0) (nI 5)) : kMi l yX3_asks wsX3_asks rmX3_asks D (kT cI cZ cO cJ) [.ref (y 0), .int v] (wM cI cZ y Lo Se Ef gp gi am li dl ck T Su Dm F Sp C Ho th) (wM cI cZ y Lo Se Ef gp gi am li dl ck T Su Dm F Sp C Ho (nI 0)) sz (nI 1) := by
  refine kEnter (cc := cX3_asks) (maxL := 2) (ret := some .boolean) (by decide +kernel) rfl (Nat.le_of_ble_eq_true rfl) ?_
  intro p e s m below meth c args hx hb hr hml hts hown hlocks hin hK hN A hA9 Q hQ9 hP hD hsz hS hA ls hl
  have hl : lv_has ls 2 [(0, .ref (y 0)), (1, .int v)] := hl
  have hi_X3 : ∀ w ∈ u_ws RX3 TX3 17, w ∈ wsX3_asks := by decide +kernel
  obtain ⟨H, hH9⟩ : ∃ H, H = s.heap := ⟨_, rfl⟩
  rw [← hH9] at hP ⊢
  have hS : va_S A s.heap H [] := by rw [hH9]; exact va_S.rf
  refine lv_aload_n hx hb dX3_asks_0 rfl (lv_at hl 0 rfl) ?_
  refine lv_iload_n hx hb dX3_asks_1 rfl (lv_at hl 1 rfl) ?_
  refine kCall_i (W0 := []) (W1 := []) hP hD hS hA [] rfl rfl (va_runS (As := [.int v]) (rest := [.ref (y 0)]) ⟨hx, hb, hml, hown, hts⟩ (c_X3_isZone_ok l D cI cZ cO cJ v H.size h) (va_cwS (rm := rmX3_isZone) 1 hts gX3_asks_X3_isZone rfl rfl rfl (by decide +kernel) ⟨Nat.le_of_ble_eq_true rfl, Nat.le_of_ble_eq_true rfl⟩) (kPreS hK hN hP hD [] rfl rfl) rfl rfl hl.1 rfl (lv_room (Nat.le_of_ble_eq_true rfl)) dX3_asks_2 ⟨Nat.zero_le _, Nat.zero_le _⟩) (fun H locs hP hD hS => ?_)
  have hP : va_P D vwCl (wM cI cZ y Lo Se Ef gp gi am li dl ck T Su Dm F Sp C Ho th) H := hP
  have hD : va_D A (wM cI cZ y Lo Se Ef gp gi am li dl ck T Su Dm F Sp C Ho th) := hD
  refine lv_if_eq (tgt := 12) hx hb dX3_asks_5 (by decide) (fun c9 => absurd c9 (by decide +kernel)) (fun _ => ?_)
  refine lv_iconst (v := nI 0) hx hb dX3_asks_8 (by decide +kernel) ?_
  refine lv_goto (tgt := 13) hx hb dX3_asks_9 (by decide) ?_
  refine kCallW_i (W1 := wM cI cZ y Lo Se Ef gp gi am li dl ck T Su Dm F Sp C Ho (nI 0)) hD hS hA rfl (va_runV (As := [.int (nI 0)]) (rest := []) ⟨hx, hb, hml, hown, hts⟩ (c_X3_goes_0 l D cI cZ cO cJ y Lo Se Ef gp gi am li dl ck T Su Dm F Sp C Ho th (nI 0) H.size (by decide +kernel)) (cwV (rm := rmX3_goes) 1 hts gX3_asks_X3_goes rfl rfl rfl (by decide +kernel) ⟨Nat.le_of_ble_eq_true rfl, Nat.le_of_ble_eq_true rfl⟩) (kPreVW hK hN hP hD (va_recv hK hP (ci := 3) (q0 := 0) rfl rfl)) rfl rfl hl.1 rfl (lv_room (Nat.le_of_ble_eq_true rfl)) dX3_asks_13 ⟨Nat.zero_le _, Nat.zero_le _⟩) (fun H locs hP hD hS => ?_)
  subst hQ9
  subst hA9
  exact kRet_z hx hb hr hlocks hP hS dX3_asks_16 rfl (by decide +kernel)

set_option maxHeartbeats 4000000 in
set_option maxRecDepth 100000 in
/-- asks_bad -/
theorem c_X3_asks_bad (l : Launch) (D : va_G) (cI cZ cO cJ : ClassId) (y : Nat → Nat) (Lo Se Ef : Nat → Int32) (gp gi am li : Int32) (dl : Nat) (ck : Nat → Nat) (T Su Dm F Sp C Ho : Nat → Int32) (th : Int32) (v : Int32) (sz : Nat) (h : ¬ inR v (nI 0) (nI 5)) : kMi l yX3_asks wsX3_asks rmX3_asks D (kT cI cZ cO cJ) [.ref (y 0), .int v] (wM cI cZ y Lo Se Ef gp gi am li dl ck T Su Dm F Sp C Ho th) (wM cI cZ y Lo Se Ef gp gi am li dl ck T Su Dm F Sp C Ho (nI 1)) sz (nI 0) := by
  refine kEnter (cc := cX3_asks) (maxL := 2) (ret := some .boolean) (by decide +kernel) rfl (Nat.le_of_ble_eq_true rfl) ?_
  intro p e s m below meth c args hx hb hr hml hts hown hlocks hin hK hN A hA9 Q hQ9 hP hD hsz hS hA ls hl
  have hl : lv_has ls 2 [(0, .ref (y 0)), (1, .int v)] := hl
  have hi_X3 : ∀ w ∈ u_ws RX3 TX3 17, w ∈ wsX3_asks := by decide +kernel
  obtain ⟨H, hH9⟩ : ∃ H, H = s.heap := ⟨_, rfl⟩
  rw [← hH9] at hP ⊢
  have hS : va_S A s.heap H [] := by rw [hH9]; exact va_S.rf
  refine lv_aload_n hx hb dX3_asks_0 rfl (lv_at hl 0 rfl) ?_
  refine lv_iload_n hx hb dX3_asks_1 rfl (lv_at hl 1 rfl) ?_
  refine kCall_i (W0 := []) (W1 := []) hP hD hS hA [] rfl rfl (va_runS (As := [.int v]) (rest := [.ref (y 0)]) ⟨hx, hb, hml, hown, hts⟩ (c_X3_isZone_bad l D cI cZ cO cJ v H.size h) (va_cwS (rm := rmX3_isZone) 1 hts gX3_asks_X3_isZone rfl rfl rfl (by decide +kernel) ⟨Nat.le_of_ble_eq_true rfl, Nat.le_of_ble_eq_true rfl⟩) (kPreS hK hN hP hD [] rfl rfl) rfl rfl hl.1 rfl (lv_room (Nat.le_of_ble_eq_true rfl)) dX3_asks_2 ⟨Nat.zero_le _, Nat.zero_le _⟩) (fun H locs hP hD hS => ?_)
  have hP : va_P D vwCl (wM cI cZ y Lo Se Ef gp gi am li dl ck T Su Dm F Sp C Ho th) H := hP
  have hD : va_D A (wM cI cZ y Lo Se Ef gp gi am li dl ck T Su Dm F Sp C Ho th) := hD
  refine lv_if_eq (tgt := 12) hx hb dX3_asks_5 (by decide) (fun _ => ?_) (fun c9 => absurd (by decide +kernel) c9)
  refine lv_iconst (v := nI 1) hx hb dX3_asks_12 (by decide +kernel) ?_
  refine kCallW_i (W1 := wM cI cZ y Lo Se Ef gp gi am li dl ck T Su Dm F Sp C Ho (nI 1)) hD hS hA rfl (va_runV (As := [.int (nI 1)]) (rest := []) ⟨hx, hb, hml, hown, hts⟩ (c_X3_goes_1 l D cI cZ cO cJ y Lo Se Ef gp gi am li dl ck T Su Dm F Sp C Ho th (nI 1) H.size (by decide +kernel)) (cwV (rm := rmX3_goes) 1 hts gX3_asks_X3_goes rfl rfl rfl (by decide +kernel) ⟨Nat.le_of_ble_eq_true rfl, Nat.le_of_ble_eq_true rfl⟩) (kPreVW hK hN hP hD (va_recv hK hP (ci := 3) (q0 := 0) rfl rfl)) rfl rfl hl.1 rfl (lv_room (Nat.le_of_ble_eq_true rfl)) dX3_asks_13 ⟨Nat.zero_le _, Nat.zero_le _⟩) (fun H locs hP hD hS => ?_)
  subst hQ9
  subst hA9
  exact kRet_z hx hb hr hlocks hP hS dX3_asks_16 rfl (by decide +kernel)

abbrev rmX3_asksIf : Room := { frames := 2, cells := 0, slots := 0, locals := 42 }
set_option maxHeartbeats 4000000 in
set_option maxRecDepth 100000 in
/-- asksIf_ok -/
theorem c_X3_asksIf_ok (l : Launch) (D : va_G) (cI cZ cO cJ : ClassId) (y : Nat → Nat) (Lo Se Ef : Nat → Int32) (gp gi am li : Int32) (dl : Nat) (ck : Nat → Nat) (T Su Dm F Sp C Ho : Nat → Int32) (th : Int32) (v w : Int32) (sz : Nat) (h : inR v (nI 0) (nI 5)) (h2 : inR w (nI 1) (nI 60)) : kMi l yX3_asksIf wsX3_asksIf rmX3_asksIf D (kT cI cZ cO cJ) [.ref (y 0), .int v, .int w] (wM cI cZ y Lo Se Ef gp gi am li dl ck T Su Dm F Sp C Ho th) (wM cI cZ y Lo Se Ef gp gi am li dl ck T Su Dm F Sp C Ho (nI 0)) sz (nI 1) := by
  refine kEnter (cc := cX3_asksIf) (maxL := 3) (ret := some .boolean) (by decide +kernel) rfl (Nat.le_of_ble_eq_true rfl) ?_
  intro p e s m below meth c args hx hb hr hml hts hown hlocks hin hK hN A hA9 Q hQ9 hP hD hsz hS hA ls hl
  have hl : lv_has ls 3 [(0, .ref (y 0)), (1, .int v), (2, .int w)] := hl
  have hi_X3 : ∀ w ∈ u_ws RX3 TX3 17, w ∈ wsX3_asksIf := by decide +kernel
  obtain ⟨H, hH9⟩ : ∃ H, H = s.heap := ⟨_, rfl⟩
  rw [← hH9] at hP ⊢
  have hS : va_S A s.heap H [] := by rw [hH9]; exact va_S.rf
  refine lv_aload_n hx hb dX3_asksIf_0 rfl (lv_at hl 0 rfl) ?_
  refine lv_iload_n hx hb dX3_asksIf_1 rfl (lv_at hl 1 rfl) ?_
  refine kCall_i (W0 := []) (W1 := []) hP hD hS hA [] rfl rfl (va_runS (As := [.int v]) (rest := [.ref (y 0)]) ⟨hx, hb, hml, hown, hts⟩ (c_X3_isZone_ok l D cI cZ cO cJ v H.size h) (va_cwS (rm := rmX3_isZone) 1 hts gX3_asksIf_X3_isZone rfl rfl rfl (by decide +kernel) ⟨Nat.le_of_ble_eq_true rfl, Nat.le_of_ble_eq_true rfl⟩) (kPreS hK hN hP hD [] rfl rfl) rfl rfl hl.1 rfl (lv_room (Nat.le_of_ble_eq_true rfl)) dX3_asksIf_2 ⟨Nat.zero_le _, Nat.zero_le _⟩) (fun H locs hP hD hS => ?_)
  have hP : va_P D vwCl (wM cI cZ y Lo Se Ef gp gi am li dl ck T Su Dm F Sp C Ho th) H := hP
  have hD : va_D A (wM cI cZ y Lo Se Ef gp gi am li dl ck T Su Dm F Sp C Ho th) := hD
  refine lv_if_eq (tgt := 22) hx hb dX3_asksIf_5 (by decide) (fun c9 => absurd c9 (by decide +kernel)) (fun _ => ?_)
  refine lv_iload_n hx hb dX3_asksIf_8 rfl (lv_at hl 2 rfl) ?_
  refine lv_iconst (v := nI 1) hx hb dX3_asksIf_9 (by decide +kernel) ?_
  refine lv_bipush (v := nI 60) hx hb dX3_asksIf_10 (by decide +kernel) ?_
  refine kCall_i (W0 := []) (W1 := []) hP hD hS hA [] rfl rfl (va_runS (As := [.int w, .int (nI 1), .int (nI 60)]) (rest := [.ref (y 0)]) ⟨hx, hb, hml, hown, hts⟩ (c_X3_isIn_ok l D cI cZ cO cJ w (nI 1) (nI 60) H.size h2) (va_cwS (rm := rmX3_isIn) 3 hts gX3_asksIf_X3_isIn rfl rfl rfl (by decide +kernel) ⟨Nat.le_of_ble_eq_true rfl, Nat.le_of_ble_eq_true rfl⟩) (kPreS hK hN hP hD [] rfl rfl) rfl rfl hl.1 rfl (lv_room (Nat.le_of_ble_eq_true rfl)) dX3_asksIf_12 ⟨Nat.zero_le _, Nat.zero_le _⟩) (fun H locs hP hD hS => ?_)
  have hP : va_P D vwCl (wM cI cZ y Lo Se Ef gp gi am li dl ck T Su Dm F Sp C Ho th) H := hP
  have hD : va_D A (wM cI cZ y Lo Se Ef gp gi am li dl ck T Su Dm F Sp C Ho th) := hD
  refine lv_if_eq (tgt := 22) hx hb dX3_asksIf_15 (by decide) (fun c9 => absurd c9 (by decide +kernel)) (fun _ => ?_)
  refine lv_iconst (v := nI 0) hx hb dX3_asksIf_18 (by decide +kernel) ?_
  refine lv_goto (tgt := 23) hx hb dX3_asksIf_19 (by decide) ?_
  refine kCallW_i (W1 := wM cI cZ y Lo Se Ef gp gi am li dl ck T Su Dm F Sp C Ho (nI 0)) hD hS hA rfl (va_runV (As := [.int (nI 0)]) (rest := []) ⟨hx, hb, hml, hown, hts⟩ (c_X3_goes_0 l D cI cZ cO cJ y Lo Se Ef gp gi am li dl ck T Su Dm F Sp C Ho th (nI 0) H.size (by decide +kernel)) (cwV (rm := rmX3_goes) 1 hts gX3_asksIf_X3_goes rfl rfl rfl (by decide +kernel) ⟨Nat.le_of_ble_eq_true rfl, Nat.le_of_ble_eq_true rfl⟩) (kPreVW hK hN hP hD (va_recv hK hP (ci := 3) (q0 := 0) rfl rfl)) rfl rfl hl.1 rfl (lv_room (Nat.le_of_ble_eq_true rfl)) dX3_asksIf_23 ⟨Nat.zero_le _, Nat.zero_le _⟩) (fun H locs hP hD hS => ?_)
  subst hQ9
  subst hA9
  exact kRet_z hx hb hr hlocks hP hS dX3_asksIf_26 rfl (by decide +kernel)

set_option maxHeartbeats 4000000 in
set_option maxRecDepth 100000 in
/-- asksIf_bad -/
theorem c_X3_asksIf_bad (l : Launch) (D : va_G) (cI cZ cO cJ : ClassId) (y : Nat → Nat) (Lo Se Ef : Nat → Int32) (gp gi am li : Int32) (dl : Nat) (ck : Nat → Nat) (T Su Dm F Sp C Ho : Nat → Int32) (th : Int32) (v w : Int32) (sz : Nat) (h : ¬ (inR v (nI 0) (nI 5) ∧ inR w (nI 1) (nI 60))) : kMi l yX3_asksIf wsX3_asksIf rmX3_asksIf D (kT cI cZ cO cJ) [.ref (y 0), .int v, .int w] (wM cI cZ y Lo Se Ef gp gi am li dl ck T Su Dm F Sp C Ho th) (wM cI cZ y Lo Se Ef gp gi am li dl ck T Su Dm F Sp C Ho (nI 1)) sz (nI 0) := by
  refine kEnter (cc := cX3_asksIf) (maxL := 3) (ret := some .boolean) (by decide +kernel) rfl (Nat.le_of_ble_eq_true rfl) ?_
  intro p e s m below meth c args hx hb hr hml hts hown hlocks hin hK hN A hA9 Q hQ9 hP hD hsz hS hA ls hl
  have hl : lv_has ls 3 [(0, .ref (y 0)), (1, .int v), (2, .int w)] := hl
  have hi_X3 : ∀ w ∈ u_ws RX3 TX3 17, w ∈ wsX3_asksIf := by decide +kernel
  obtain ⟨H, hH9⟩ : ∃ H, H = s.heap := ⟨_, rfl⟩
  rw [← hH9] at hP ⊢
  have hS : va_S A s.heap H [] := by rw [hH9]; exact va_S.rf
  by_cases g0 : inR v (nI 0) (nI 5)
  · have g1 : ¬ inR w (nI 1) (nI 60) := fun q => h ⟨g0, q⟩
    refine lv_aload_n hx hb dX3_asksIf_0 rfl (lv_at hl 0 rfl) ?_
    refine lv_iload_n hx hb dX3_asksIf_1 rfl (lv_at hl 1 rfl) ?_
    refine kCall_i (W0 := []) (W1 := []) hP hD hS hA [] rfl rfl (va_runS (As := [.int v]) (rest := [.ref (y 0)]) ⟨hx, hb, hml, hown, hts⟩ (c_X3_isZone_ok l D cI cZ cO cJ v H.size g0) (va_cwS (rm := rmX3_isZone) 1 hts gX3_asksIf_X3_isZone rfl rfl rfl (by decide +kernel) ⟨Nat.le_of_ble_eq_true rfl, Nat.le_of_ble_eq_true rfl⟩) (kPreS hK hN hP hD [] rfl rfl) rfl rfl hl.1 rfl (lv_room (Nat.le_of_ble_eq_true rfl)) dX3_asksIf_2 ⟨Nat.zero_le _, Nat.zero_le _⟩) (fun H locs hP hD hS => ?_)
    have hP : va_P D vwCl (wM cI cZ y Lo Se Ef gp gi am li dl ck T Su Dm F Sp C Ho th) H := hP
    have hD : va_D A (wM cI cZ y Lo Se Ef gp gi am li dl ck T Su Dm F Sp C Ho th) := hD
    refine lv_if_eq (tgt := 22) hx hb dX3_asksIf_5 (by decide) (fun c9 => absurd c9 (by decide +kernel)) (fun _ => ?_)
    refine lv_iload_n hx hb dX3_asksIf_8 rfl (lv_at hl 2 rfl) ?_
    refine lv_iconst (v := nI 1) hx hb dX3_asksIf_9 (by decide +kernel) ?_
    refine lv_bipush (v := nI 60) hx hb dX3_asksIf_10 (by decide +kernel) ?_
    refine kCall_i (W0 := []) (W1 := []) hP hD hS hA [] rfl rfl (va_runS (As := [.int w, .int (nI 1), .int (nI 60)]) (rest := [.ref (y 0)]) ⟨hx, hb, hml, hown, hts⟩ (c_X3_isIn_bad l D cI cZ cO cJ w (nI 1) (nI 60) H.size g1) (va_cwS (rm := rmX3_isIn) 3 hts gX3_asksIf_X3_isIn rfl rfl rfl (by decide +kernel) ⟨Nat.le_of_ble_eq_true rfl, Nat.le_of_ble_eq_true rfl⟩) (kPreS hK hN hP hD [] rfl rfl) rfl rfl hl.1 rfl (lv_room (Nat.le_of_ble_eq_true rfl)) dX3_asksIf_12 ⟨Nat.zero_le _, Nat.zero_le _⟩) (fun H locs hP hD hS => ?_)
    have hP : va_P D vwCl (wM cI cZ y Lo Se Ef gp gi am li dl ck T Su Dm F Sp C Ho th) H := hP
    have hD : va_D A (wM cI cZ y Lo Se Ef gp gi am li dl ck T Su Dm F Sp C Ho th) := hD
    refine lv_if_eq (tgt := 22) hx hb dX3_asksIf_15 (by decide) (fun _ => ?_) (fun c9 => absurd (by decide +kernel) c9)
    refine lv_iconst (v := nI 1) hx hb dX3_asksIf_22 (by decide +kernel) ?_
    refine kCallW_i (W1 := wM cI cZ y Lo Se Ef gp gi am li dl ck T Su Dm F Sp C Ho (nI 1)) hD hS hA rfl (va_runV (As := [.int (nI 1)]) (rest := []) ⟨hx, hb, hml, hown, hts⟩ (c_X3_goes_1 l D cI cZ cO cJ y Lo Se Ef gp gi am li dl ck T Su Dm F Sp C Ho th (nI 1) H.size (by decide +kernel)) (cwV (rm := rmX3_goes) 1 hts gX3_asksIf_X3_goes rfl rfl rfl (by decide +kernel) ⟨Nat.le_of_ble_eq_true rfl, Nat.le_of_ble_eq_true rfl⟩) (kPreVW hK hN hP hD (va_recv hK hP (ci := 3) (q0 := 0) rfl rfl)) rfl rfl hl.1 rfl (lv_room (Nat.le_of_ble_eq_true rfl)) dX3_asksIf_23 ⟨Nat.zero_le _, Nat.zero_le _⟩) (fun H locs hP hD hS => ?_)
    subst hQ9
    subst hA9
    exact kRet_z hx hb hr hlocks hP hS dX3_asksIf_26 rfl (by decide +kernel)
  · refine lv_aload_n hx hb dX3_asksIf_0 rfl (lv_at hl 0 rfl) ?_
    refine lv_iload_n hx hb dX3_asksIf_1 rfl (lv_at hl 1 rfl) ?_
    refine kCall_i (W0 := []) (W1 := []) hP hD hS hA [] rfl rfl (va_runS (As := [.int v]) (rest := [.ref (y 0)]) ⟨hx, hb, hml, hown, hts⟩ (c_X3_isZone_bad l D cI cZ cO cJ v H.size g0) (va_cwS (rm := rmX3_isZone) 1 hts gX3_asksIf_X3_isZone rfl rfl rfl (by decide +kernel) ⟨Nat.le_of_ble_eq_true rfl, Nat.le_of_ble_eq_true rfl⟩) (kPreS hK hN hP hD [] rfl rfl) rfl rfl hl.1 rfl (lv_room (Nat.le_of_ble_eq_true rfl)) dX3_asksIf_2 ⟨Nat.zero_le _, Nat.zero_le _⟩) (fun H locs hP hD hS => ?_)
    have hP : va_P D vwCl (wM cI cZ y Lo Se Ef gp gi am li dl ck T Su Dm F Sp C Ho th) H := hP
    have hD : va_D A (wM cI cZ y Lo Se Ef gp gi am li dl ck T Su Dm F Sp C Ho th) := hD
    refine lv_if_eq (tgt := 22) hx hb dX3_asksIf_5 (by decide) (fun _ => ?_) (fun c9 => absurd (by decide +kernel) c9)
    refine lv_iconst (v := nI 1) hx hb dX3_asksIf_22 (by decide +kernel) ?_
    refine kCallW_i (W1 := wM cI cZ y Lo Se Ef gp gi am li dl ck T Su Dm F Sp C Ho (nI 1)) hD hS hA rfl (va_runV (As := [.int (nI 1)]) (rest := []) ⟨hx, hb, hml, hown, hts⟩ (c_X3_goes_1 l D cI cZ cO cJ y Lo Se Ef gp gi am li dl ck T Su Dm F Sp C Ho th (nI 1) H.size (by decide +kernel)) (cwV (rm := rmX3_goes) 1 hts gX3_asksIf_X3_goes rfl rfl rfl (by decide +kernel) ⟨Nat.le_of_ble_eq_true rfl, Nat.le_of_ble_eq_true rfl⟩) (kPreVW hK hN hP hD (va_recv hK hP (ci := 3) (q0 := 0) rfl rfl)) rfl rfl hl.1 rfl (lv_room (Nat.le_of_ble_eq_true rfl)) dX3_asksIf_23 ⟨Nat.zero_le _, Nat.zero_le _⟩) (fun H locs hP hD hS => ?_)
    subst hQ9
    subst hA9
    exact kRet_z hx hb hr hlocks hP hS dX3_asksIf_26 rfl (by decide +kernel)

abbrev rmX3_setLoad : Room := { frames := 2, cells := 0, slots := 0, locals := 42 }
set_option maxHeartbeats 4000000 in
set_option maxRecDepth 100000 in
/-- setLoad_ok -/
theorem c_X3_setLoad_ok (l : Launch) (D : va_G) (cI cZ cO cJ : ClassId) (y : Nat → Nat) (Lo Se Ef : Nat → Int32) (gp gi am li : Int32) (dl : Nat) (ck : Nat → Nat) (T Su Dm F Sp C Ho : Nat → Int32) (th : Int32) (z : Nat) (v : Int32) (sz : Nat) (hz : z < 6) (h : inR v (nI 0) (nI 200)) : kMi l yX3_setLoad wsX3_setLoad rmX3_setLoad D (kT cI cZ cO cJ) [.ref (y 0), .int (nI z), .int v] (wM cI cZ y Lo Se Ef gp gi am li dl ck T Su Dm F Sp C Ho th) (wM cI cZ y (upd Lo z v) Se Ef gp gi am li dl ck T Su Dm F Sp C Ho (nI 0)) sz (Lo z) := by
  refine kEnter (cc := cX3_setLoad) (maxL := 4) (ret := some .int) (by decide +kernel) rfl (Nat.le_of_ble_eq_true rfl) ?_
  intro p e s m below meth c args hx hb hr hml hts hown hlocks hin hK hN A hA9 Q hQ9 hP hD hsz hS hA ls hl
  have hl : lv_has ls 4 [(0, .ref (y 0)), (1, .int (nI z)), (2, .int v)] := hl
  have hi_X3 : ∀ w ∈ u_ws RX3 TX3 17, w ∈ wsX3_setLoad := by decide +kernel
  obtain ⟨H, hH9⟩ : ∃ H, H = s.heap := ⟨_, rfl⟩
  rw [← hH9] at hP ⊢
  have hS : va_S A s.heap H [] := by rw [hH9]; exact va_S.rf
  refine lv_aload_n hx hb dX3_setLoad_0 rfl (lv_at hl 0 rfl) ?_
  refine lv_iload_n hx hb dX3_setLoad_1 rfl (lv_at hl 1 rfl) ?_
  refine kCall_i (W0 := []) (W1 := []) hP hD hS hA [] rfl rfl (va_runS (As := [.int (nI z)]) (rest := [.ref (y 0)]) ⟨hx, hb, hml, hown, hts⟩ (c_X3_isZone_ok l D cI cZ cO cJ (nI z) H.size (inR_nI (by omega) (by omega) (by decide))) (va_cwS (rm := rmX3_isZone) 1 hts gX3_setLoad_X3_isZone rfl rfl rfl (by decide +kernel) ⟨Nat.le_of_ble_eq_true rfl, Nat.le_of_ble_eq_true rfl⟩) (kPreS hK hN hP hD [] rfl rfl) rfl rfl hl.1 rfl (lv_room (Nat.le_of_ble_eq_true rfl)) dX3_setLoad_2 ⟨Nat.zero_le _, Nat.zero_le _⟩) (fun H locs hP hD hS => ?_)
  have hP : va_P D vwCl (wM cI cZ y Lo Se Ef gp gi am li dl ck T Su Dm F Sp C Ho th) H := hP
  have hD : va_D A (wM cI cZ y Lo Se Ef gp gi am li dl ck T Su Dm F Sp C Ho th) := hD
  refine lv_if_eq (tgt := 23) hx hb dX3_setLoad_5 (by decide) (fun c9 => absurd c9 (by decide +kernel)) (fun _ => ?_)
  refine lv_iload_n hx hb dX3_setLoad_8 rfl (lv_at hl 2 rfl) ?_
  refine lv_iconst (v := nI 0) hx hb dX3_setLoad_9 (by decide +kernel) ?_
  refine lv_sipush (v := nI 200) hx hb dX3_setLoad_10 (by decide +kernel) ?_
  refine kCall_i (W0 := []) (W1 := []) hP hD hS hA [] rfl rfl (va_runS (As := [.int v, .int (nI 0), .int (nI 200)]) (rest := [.ref (y 0)]) ⟨hx, hb, hml, hown, hts⟩ (c_X3_isIn_ok l D cI cZ cO cJ v (nI 0) (nI 200) H.size h) (va_cwS (rm := rmX3_isIn) 3 hts gX3_setLoad_X3_isIn rfl rfl rfl (by decide +kernel) ⟨Nat.le_of_ble_eq_true rfl, Nat.le_of_ble_eq_true rfl⟩) (kPreS hK hN hP hD [] rfl rfl) rfl rfl hl.1 rfl (lv_room (Nat.le_of_ble_eq_true rfl)) dX3_setLoad_13 ⟨Nat.zero_le _, Nat.zero_le _⟩) (fun H locs hP hD hS => ?_)
  have hP : va_P D vwCl (wM cI cZ y Lo Se Ef gp gi am li dl ck T Su Dm F Sp C Ho th) H := hP
  have hD : va_D A (wM cI cZ y Lo Se Ef gp gi am li dl ck T Su Dm F Sp C Ho th) := hD
  refine lv_if_eq (tgt := 23) hx hb dX3_setLoad_16 (by decide) (fun c9 => absurd c9 (by decide +kernel)) (fun _ => ?_)
  refine lv_iconst (v := nI 0) hx hb dX3_setLoad_19 (by decide +kernel) ?_
  refine lv_goto (tgt := 24) hx hb dX3_setLoad_20 (by decide) ?_
  refine kCallW_i (W1 := wM cI cZ y Lo Se Ef gp gi am li dl ck T Su Dm F Sp C Ho (nI 0)) hD hS hA rfl (va_runV (As := [.int (nI 0)]) (rest := []) ⟨hx, hb, hml, hown, hts⟩ (c_X3_goes_0 l D cI cZ cO cJ y Lo Se Ef gp gi am li dl ck T Su Dm F Sp C Ho th (nI 0) H.size (by decide +kernel)) (cwV (rm := rmX3_goes) 1 hts gX3_setLoad_X3_goes rfl rfl rfl (by decide +kernel) ⟨Nat.le_of_ble_eq_true rfl, Nat.le_of_ble_eq_true rfl⟩) (kPreVW hK hN hP hD (va_recv hK hP (ci := 3) (q0 := 0) rfl rfl)) rfl rfl hl.1 rfl (lv_room (Nat.le_of_ble_eq_true rfl)) dX3_setLoad_24 ⟨Nat.zero_le _, Nat.zero_le _⟩) (fun H locs hP hD hS => ?_)
  refine lv_if_ne (tgt := 32) hx hb dX3_setLoad_27 (by decide) (fun _ => ?_) (fun c9 => absurd c9 (by decide +kernel))
  refine lv_aload_n hx hb dX3_setLoad_32 rfl (lv_at hl 0 rfl) ?_
  refine va_get (D := D) (ci := 3) (v := .ref (y 1)) (C := RX3) (T := TX3) (N := 17) hx hb hts hi_X3 hown hK hP 0 rfl rfl 0 (by decide) (hts (.fieldLink RX3 7 "ColdaisleModel" "loads" "[I") (by decide +kernel)) (fun _ h9 => h9) rfl dX3_setLoad_33 ?_
  refine lv_iload_n hx hb dX3_setLoad_36 rfl (lv_at hl 1 rfl) ?_
  refine k_iald hx hb hK hP 1 0 rfl rfl (i := z) (by omega) (by decide) dX3_setLoad_37 ?_
  refine lv_istore_n (lv' := [(3, .int (Lo z)), (0, .ref (y 0)), (1, .int (nI z)), (2, .int v)]) hx hb dX3_setLoad_38 rfl hl (by decide) rfl (fun ls hl => ?_)
  refine lv_aload_n hx hb dX3_setLoad_39 rfl (lv_at hl 1 rfl) ?_
  refine va_get (D := D) (ci := 3) (v := .ref (y 1)) (C := RX3) (T := TX3) (N := 17) hx hb hts hi_X3 hown hK hP 0 rfl rfl 0 (by decide) (hts (.fieldLink RX3 7 "ColdaisleModel" "loads" "[I") (by decide +kernel)) (fun _ h9 => h9) rfl dX3_setLoad_40 ?_
  refine lv_iload_n hx hb dX3_setLoad_43 rfl (lv_at hl 2 rfl) ?_
  refine lv_iload_n hx hb dX3_setLoad_44 rfl (lv_at hl 3 rfl) ?_
  refine k_iast hx hb hK hP hD hS 1 0 rfl rfl (i := z) (x := v) (by omega) (by decide) dX3_setLoad_45 (fun H locs hP hD hS => ?_)
  have hP : va_P D vwCl (wM cI cZ y (upd Lo z v) Se Ef gp gi am li dl ck T Su Dm F Sp C Ho (nI 0)) H := hP
  have hD : va_D A (wM cI cZ y (upd Lo z v) Se Ef gp gi am li dl ck T Su Dm F Sp C Ho (nI 0)) := hD
  refine lv_iload_n hx hb dX3_setLoad_46 rfl (lv_at hl 0 rfl) ?_
  subst hQ9
  subst hA9
  exact kRet_i hx hb hr hlocks hP hS dX3_setLoad_47 rfl

set_option maxHeartbeats 4000000 in
set_option maxRecDepth 100000 in
/-- setLoad_bad -/
theorem c_X3_setLoad_bad (l : Launch) (D : va_G) (cI cZ cO cJ : ClassId) (y : Nat → Nat) (Lo Se Ef : Nat → Int32) (gp gi am li : Int32) (dl : Nat) (ck : Nat → Nat) (T Su Dm F Sp C Ho : Nat → Int32) (th : Int32) (v w : Int32) (sz : Nat) (h : ¬ (inR v (nI 0) (nI 5) ∧ inR w (nI 0) (nI 200))) : kMi l yX3_setLoad wsX3_setLoad rmX3_setLoad D (kT cI cZ cO cJ) [.ref (y 0), .int v, .int w] (wM cI cZ y Lo Se Ef gp gi am li dl ck T Su Dm F Sp C Ho th) (wM cI cZ y Lo Se Ef gp gi am li dl ck T Su Dm F Sp C Ho (nI 1)) sz (nI 0) := by
  refine kEnter (cc := cX3_setLoad) (maxL := 4) (ret := some .int) (by decide +kernel) rfl (Nat.le_of_ble_eq_true rfl) ?_
  intro p e s m below meth c args hx hb hr hml hts hown hlocks hin hK hN A hA9 Q hQ9 hP hD hsz hS hA ls hl
  have hl : lv_has ls 4 [(0, .ref (y 0)), (1, .int v), (2, .int w)] := hl
  have hi_X3 : ∀ w ∈ u_ws RX3 TX3 17, w ∈ wsX3_setLoad := by decide +kernel
  obtain ⟨H, hH9⟩ : ∃ H, H = s.heap := ⟨_, rfl⟩
  rw [← hH9] at hP ⊢
  have hS : va_S A s.heap H [] := by rw [hH9]; exact va_S.rf
  by_cases g0 : inR v (nI 0) (nI 5)
  · have g1 : ¬ inR w (nI 0) (nI 200) := fun q => h ⟨g0, q⟩
    refine lv_aload_n hx hb dX3_setLoad_0 rfl (lv_at hl 0 rfl) ?_
    refine lv_iload_n hx hb dX3_setLoad_1 rfl (lv_at hl 1 rfl) ?_
    refine kCall_i (W0 := []) (W1 := []) hP hD hS hA [] rfl rfl (va_runS (As := [.int v]) (rest := [.ref (y 0)]) ⟨hx, hb, hml, hown, hts⟩ (c_X3_isZone_ok l D cI cZ cO cJ v H.size g0) (va_cwS (rm := rmX3_isZone) 1 hts gX3_setLoad_X3_isZone rfl rfl rfl (by decide +kernel) ⟨Nat.le_of_ble_eq_true rfl, Nat.le_of_ble_eq_true rfl⟩) (kPreS hK hN hP hD [] rfl rfl) rfl rfl hl.1 rfl (lv_room (Nat.le_of_ble_eq_true rfl)) dX3_setLoad_2 ⟨Nat.zero_le _, Nat.zero_le _⟩) (fun H locs hP hD hS => ?_)
    have hP : va_P D vwCl (wM cI cZ y Lo Se Ef gp gi am li dl ck T Su Dm F Sp C Ho th) H := hP
    have hD : va_D A (wM cI cZ y Lo Se Ef gp gi am li dl ck T Su Dm F Sp C Ho th) := hD
    refine lv_if_eq (tgt := 23) hx hb dX3_setLoad_5 (by decide) (fun c9 => absurd c9 (by decide +kernel)) (fun _ => ?_)
    refine lv_iload_n hx hb dX3_setLoad_8 rfl (lv_at hl 2 rfl) ?_
    refine lv_iconst (v := nI 0) hx hb dX3_setLoad_9 (by decide +kernel) ?_
    refine lv_sipush (v := nI 200) hx hb dX3_setLoad_10 (by decide +kernel) ?_
    refine kCall_i (W0 := []) (W1 := []) hP hD hS hA [] rfl rfl (va_runS (As := [.int w, .int (nI 0), .int (nI 200)]) (rest := [.ref (y 0)]) ⟨hx, hb, hml, hown, hts⟩ (c_X3_isIn_bad l D cI cZ cO cJ w (nI 0) (nI 200) H.size g1) (va_cwS (rm := rmX3_isIn) 3 hts gX3_setLoad_X3_isIn rfl rfl rfl (by decide +kernel) ⟨Nat.le_of_ble_eq_true rfl, Nat.le_of_ble_eq_true rfl⟩) (kPreS hK hN hP hD [] rfl rfl) rfl rfl hl.1 rfl (lv_room (Nat.le_of_ble_eq_true rfl)) dX3_setLoad_13 ⟨Nat.zero_le _, Nat.zero_le _⟩) (fun H locs hP hD hS => ?_)
    have hP : va_P D vwCl (wM cI cZ y Lo Se Ef gp gi am li dl ck T Su Dm F Sp C Ho th) H := hP
    have hD : va_D A (wM cI cZ y Lo Se Ef gp gi am li dl ck T Su Dm F Sp C Ho th) := hD
    refine lv_if_eq (tgt := 23) hx hb dX3_setLoad_16 (by decide) (fun _ => ?_) (fun c9 => absurd (by decide +kernel) c9)
    refine lv_iconst (v := nI 1) hx hb dX3_setLoad_23 (by decide +kernel) ?_
    refine kCallW_i (W1 := wM cI cZ y Lo Se Ef gp gi am li dl ck T Su Dm F Sp C Ho (nI 1)) hD hS hA rfl (va_runV (As := [.int (nI 1)]) (rest := []) ⟨hx, hb, hml, hown, hts⟩ (c_X3_goes_1 l D cI cZ cO cJ y Lo Se Ef gp gi am li dl ck T Su Dm F Sp C Ho th (nI 1) H.size (by decide +kernel)) (cwV (rm := rmX3_goes) 1 hts gX3_setLoad_X3_goes rfl rfl rfl (by decide +kernel) ⟨Nat.le_of_ble_eq_true rfl, Nat.le_of_ble_eq_true rfl⟩) (kPreVW hK hN hP hD (va_recv hK hP (ci := 3) (q0 := 0) rfl rfl)) rfl rfl hl.1 rfl (lv_room (Nat.le_of_ble_eq_true rfl)) dX3_setLoad_24 ⟨Nat.zero_le _, Nat.zero_le _⟩) (fun H locs hP hD hS => ?_)
    refine lv_if_ne (tgt := 32) hx hb dX3_setLoad_27 (by decide) (fun c9 => absurd (by decide +kernel) c9) (fun _ => ?_)
    refine lv_iconst (v := nI 0) hx hb dX3_setLoad_30 (by decide +kernel) ?_
    subst hQ9
    subst hA9
    exact kRet_i hx hb hr hlocks hP hS dX3_setLoad_31 rfl
  · refine lv_aload_n hx hb dX3_setLoad_0 rfl (lv_at hl 0 rfl) ?_
    refine lv_iload_n hx hb dX3_setLoad_1 rfl (lv_at hl 1 rfl) ?_
    refine kCall_i (W0 := []) (W1 := []) hP hD hS hA [] rfl rfl (va_runS (As := [.int v]) (rest := [.ref (y 0)]) ⟨hx, hb, hml, hown, hts⟩ (c_X3_isZone_bad l D cI cZ cO cJ v H.size g0) (va_cwS (rm := rmX3_isZone) 1 hts gX3_setLoad_X3_isZone rfl rfl rfl (by decide +kernel) ⟨Nat.le_of_ble_eq_true rfl, Nat.le_of_ble_eq_true rfl⟩) (kPreS hK hN hP hD [] rfl rfl) rfl rfl hl.1 rfl (lv_room (Nat.le_of_ble_eq_true rfl)) dX3_setLoad_2 ⟨Nat.zero_le _, Nat.zero_le _⟩) (fun H locs hP hD hS => ?_)
    have hP : va_P D vwCl (wM cI cZ y Lo Se Ef gp gi am li dl ck T Su Dm F Sp C Ho th) H := hP
    have hD : va_D A (wM cI cZ y Lo Se Ef gp gi am li dl ck T Su Dm F Sp C Ho th) := hD
    refine lv_if_eq (tgt := 23) hx hb dX3_setLoad_5 (by decide) (fun _ => ?_) (fun c9 => absurd (by decide +kernel) c9)
    refine lv_iconst (v := nI 1) hx hb dX3_setLoad_23 (by decide +kernel) ?_
    refine kCallW_i (W1 := wM cI cZ y Lo Se Ef gp gi am li dl ck T Su Dm F Sp C Ho (nI 1)) hD hS hA rfl (va_runV (As := [.int (nI 1)]) (rest := []) ⟨hx, hb, hml, hown, hts⟩ (c_X3_goes_1 l D cI cZ cO cJ y Lo Se Ef gp gi am li dl ck T Su Dm F Sp C Ho th (nI 1) H.size (by decide +kernel)) (cwV (rm := rmX3_goes) 1 hts gX3_setLoad_X3_goes rfl rfl rfl (by decide +kernel) ⟨Nat.le_of_ble_eq_true rfl, Nat.le_of_ble_eq_true rfl⟩) (kPreVW hK hN hP hD (va_recv hK hP (ci := 3) (q0 := 0) rfl rfl)) rfl rfl hl.1 rfl (lv_room (Nat.le_of_ble_eq_true rfl)) dX3_setLoad_24 ⟨Nat.zero_le _, Nat.zero_le _⟩) (fun H locs hP hD hS => ?_)
    refine lv_if_ne (tgt := 32) hx hb dX3_setLoad_27 (by decide) (fun c9 => absurd (by decide +kernel) c9) (fun _ => ?_)
    refine lv_iconst (v := nI 0) hx hb dX3_setLoad_30 (by decide +kernel) ?_
    subst hQ9
    subst hA9
    exact kRet_i hx hb hr hlocks hP hS dX3_setLoad_31 rfl

abbrev rmX3_setSetpoint : Room := { frames := 2, cells := 0, slots := 0, locals := 42 }
set_option maxHeartbeats 4000000 in
set_option maxRecDepth 100000 in
/-- setSetpoint_ok -/
theorem c_X3_setSetpoint_ok (l : Launch) (D : va_G) (cI cZ cO cJ : ClassId) (y : Nat → Nat) (Lo Se Ef : Nat → Int32) (gp gi am li : Int32) (dl : Nat) (ck : Nat → Nat) (T Su Dm F Sp C Ho : Nat → Int32) (th : Int32) (z : Nat) (v : Int32) (sz : Nat) (hz : z < 6) (h : inR v (nI 1500) (nI 3500)) : kMi l yX3_setSetpoint wsX3_setSetpoint rmX3_setSetpoint D (kT cI cZ cO cJ) [.ref (y 0), .int (nI z), .int v] (wM cI cZ y Lo Se Ef gp gi am li dl ck T Su Dm F Sp C Ho th) (wM cI cZ y Lo (upd Se z v) Ef gp gi am li dl ck T (upd Su z (nI 0)) Dm F Sp C Ho (nI 0)) sz (Se z) := by
  refine kEnter (cc := cX3_setSetpoint) (maxL := 4) (ret := some .int) (by decide +kernel) rfl (Nat.le_of_ble_eq_true rfl) ?_
  intro p e s m below meth c args hx hb hr hml hts hown hlocks hin hK hN A hA9 Q hQ9 hP hD hsz hS hA ls hl
  have hl : lv_has ls 4 [(0, .ref (y 0)), (1, .int (nI z)), (2, .int v)] := hl
  have hi_X3 : ∀ w ∈ u_ws RX3 TX3 17, w ∈ wsX3_setSetpoint := by decide +kernel
  obtain ⟨H, hH9⟩ : ∃ H, H = s.heap := ⟨_, rfl⟩
  rw [← hH9] at hP ⊢
  have hS : va_S A s.heap H [] := by rw [hH9]; exact va_S.rf
  refine lv_aload_n hx hb dX3_setSetpoint_0 rfl (lv_at hl 0 rfl) ?_
  refine lv_iload_n hx hb dX3_setSetpoint_1 rfl (lv_at hl 1 rfl) ?_
  refine kCall_i (W0 := []) (W1 := []) hP hD hS hA [] rfl rfl (va_runS (As := [.int (nI z)]) (rest := [.ref (y 0)]) ⟨hx, hb, hml, hown, hts⟩ (c_X3_isZone_ok l D cI cZ cO cJ (nI z) H.size (inR_nI (by omega) (by omega) (by decide))) (va_cwS (rm := rmX3_isZone) 1 hts gX3_setSetpoint_X3_isZone rfl rfl rfl (by decide +kernel) ⟨Nat.le_of_ble_eq_true rfl, Nat.le_of_ble_eq_true rfl⟩) (kPreS hK hN hP hD [] rfl rfl) rfl rfl hl.1 rfl (lv_room (Nat.le_of_ble_eq_true rfl)) dX3_setSetpoint_2 ⟨Nat.zero_le _, Nat.zero_le _⟩) (fun H locs hP hD hS => ?_)
  have hP : va_P D vwCl (wM cI cZ y Lo Se Ef gp gi am li dl ck T Su Dm F Sp C Ho th) H := hP
  have hD : va_D A (wM cI cZ y Lo Se Ef gp gi am li dl ck T Su Dm F Sp C Ho th) := hD
  refine lv_if_eq (tgt := 25) hx hb dX3_setSetpoint_5 (by decide) (fun c9 => absurd c9 (by decide +kernel)) (fun _ => ?_)
  refine lv_iload_n hx hb dX3_setSetpoint_8 rfl (lv_at hl 2 rfl) ?_
  refine lv_sipush (v := nI 1500) hx hb dX3_setSetpoint_9 (by decide +kernel) ?_
  refine lv_sipush (v := nI 3500) hx hb dX3_setSetpoint_12 (by decide +kernel) ?_
  refine kCall_i (W0 := []) (W1 := []) hP hD hS hA [] rfl rfl (va_runS (As := [.int v, .int (nI 1500), .int (nI 3500)]) (rest := [.ref (y 0)]) ⟨hx, hb, hml, hown, hts⟩ (c_X3_isIn_ok l D cI cZ cO cJ v (nI 1500) (nI 3500) H.size h) (va_cwS (rm := rmX3_isIn) 3 hts gX3_setSetpoint_X3_isIn rfl rfl rfl (by decide +kernel) ⟨Nat.le_of_ble_eq_true rfl, Nat.le_of_ble_eq_true rfl⟩) (kPreS hK hN hP hD [] rfl rfl) rfl rfl hl.1 rfl (lv_room (Nat.le_of_ble_eq_true rfl)) dX3_setSetpoint_15 ⟨Nat.zero_le _, Nat.zero_le _⟩) (fun H locs hP hD hS => ?_)
  have hP : va_P D vwCl (wM cI cZ y Lo Se Ef gp gi am li dl ck T Su Dm F Sp C Ho th) H := hP
  have hD : va_D A (wM cI cZ y Lo Se Ef gp gi am li dl ck T Su Dm F Sp C Ho th) := hD
  refine lv_if_eq (tgt := 25) hx hb dX3_setSetpoint_18 (by decide) (fun c9 => absurd c9 (by decide +kernel)) (fun _ => ?_)
  refine lv_iconst (v := nI 0) hx hb dX3_setSetpoint_21 (by decide +kernel) ?_
  refine lv_goto (tgt := 26) hx hb dX3_setSetpoint_22 (by decide) ?_
  refine kCallW_i (W1 := wM cI cZ y Lo Se Ef gp gi am li dl ck T Su Dm F Sp C Ho (nI 0)) hD hS hA rfl (va_runV (As := [.int (nI 0)]) (rest := []) ⟨hx, hb, hml, hown, hts⟩ (c_X3_goes_0 l D cI cZ cO cJ y Lo Se Ef gp gi am li dl ck T Su Dm F Sp C Ho th (nI 0) H.size (by decide +kernel)) (cwV (rm := rmX3_goes) 1 hts gX3_setSetpoint_X3_goes rfl rfl rfl (by decide +kernel) ⟨Nat.le_of_ble_eq_true rfl, Nat.le_of_ble_eq_true rfl⟩) (kPreVW hK hN hP hD (va_recv hK hP (ci := 3) (q0 := 0) rfl rfl)) rfl rfl hl.1 rfl (lv_room (Nat.le_of_ble_eq_true rfl)) dX3_setSetpoint_26 ⟨Nat.zero_le _, Nat.zero_le _⟩) (fun H locs hP hD hS => ?_)
  refine lv_if_ne (tgt := 34) hx hb dX3_setSetpoint_29 (by decide) (fun _ => ?_) (fun c9 => absurd c9 (by decide +kernel))
  refine lv_aload_n hx hb dX3_setSetpoint_34 rfl (lv_at hl 0 rfl) ?_
  refine va_get (D := D) (ci := 3) (v := .ref (y 2)) (C := RX3) (T := TX3) (N := 17) hx hb hts hi_X3 hown hK hP 0 rfl rfl 1 (by decide) (hts (.fieldLink RX3 13 "ColdaisleModel" "setpoints" "[I") (by decide +kernel)) (fun _ h9 => h9) rfl dX3_setSetpoint_35 ?_
  refine lv_iload_n hx hb dX3_setSetpoint_38 rfl (lv_at hl 1 rfl) ?_
  refine k_iald hx hb hK hP 2 0 rfl rfl (i := z) (by omega) (by decide) dX3_setSetpoint_39 ?_
  refine lv_istore_n (lv' := [(3, .int (Se z)), (0, .ref (y 0)), (1, .int (nI z)), (2, .int v)]) hx hb dX3_setSetpoint_40 rfl hl (by decide) rfl (fun ls hl => ?_)
  refine lv_aload_n hx hb dX3_setSetpoint_41 rfl (lv_at hl 1 rfl) ?_
  refine va_get (D := D) (ci := 3) (v := .ref (y 2)) (C := RX3) (T := TX3) (N := 17) hx hb hts hi_X3 hown hK hP 0 rfl rfl 1 (by decide) (hts (.fieldLink RX3 13 "ColdaisleModel" "setpoints" "[I") (by decide +kernel)) (fun _ h9 => h9) rfl dX3_setSetpoint_42 ?_
  refine lv_iload_n hx hb dX3_setSetpoint_45 rfl (lv_at hl 2 rfl) ?_
  refine lv_iload_n hx hb dX3_setSetpoint_46 rfl (lv_at hl 3 rfl) ?_
  refine k_iast hx hb hK hP hD hS 2 0 rfl rfl (i := z) (x := v) (by omega) (by decide) dX3_setSetpoint_47 (fun H locs hP hD hS => ?_)
  have hP : va_P D vwCl (wM cI cZ y Lo (upd Se z v) Ef gp gi am li dl ck T Su Dm F Sp C Ho (nI 0)) H := hP
  have hD : va_D A (wM cI cZ y Lo (upd Se z v) Ef gp gi am li dl ck T Su Dm F Sp C Ho (nI 0)) := hD
  refine lv_aload_n hx hb dX3_setSetpoint_48 rfl (lv_at hl 1 rfl) ?_
  refine va_get (D := D) (ci := 3) (v := .ref (y 6)) (C := RX3) (T := TX3) (N := 17) hx hb hts hi_X3 hown hK hP 0 rfl rfl 10 (by decide) (hts (.fieldLink RX3 41 "ColdaisleModel" "sums" "[I") (by decide +kernel)) (fun _ h9 => h9) rfl dX3_setSetpoint_49 ?_
  refine lv_iload_n hx hb dX3_setSetpoint_52 rfl (lv_at hl 2 rfl) ?_
  refine lv_iconst (v := nI 0) hx hb dX3_setSetpoint_53 (by decide +kernel) ?_
  refine k_iast hx hb hK hP hD hS 6 0 rfl rfl (i := z) (x := nI 0) (by omega) (by decide) dX3_setSetpoint_54 (fun H locs hP hD hS => ?_)
  have hP : va_P D vwCl (wM cI cZ y Lo (upd Se z v) Ef gp gi am li dl ck T (upd Su z (nI 0)) Dm F Sp C Ho (nI 0)) H := hP
  have hD : va_D A (wM cI cZ y Lo (upd Se z v) Ef gp gi am li dl ck T (upd Su z (nI 0)) Dm F Sp C Ho (nI 0)) := hD
  refine lv_iload_n hx hb dX3_setSetpoint_55 rfl (lv_at hl 0 rfl) ?_
  subst hQ9
  subst hA9
  exact kRet_i hx hb hr hlocks hP hS dX3_setSetpoint_56 rfl

set_option maxHeartbeats 4000000 in
set_option maxRecDepth 100000 in
/-- setSetpoint_bad -/
theorem c_X3_setSetpoint_bad (l : Launch) (D : va_G) (cI cZ cO cJ : ClassId) (y : Nat → Nat) (Lo Se Ef : Nat → Int32) (gp gi am li : Int32) (dl : Nat) (ck : Nat → Nat) (T Su Dm F Sp C Ho : Nat → Int32) (th : Int32) (v w : Int32) (sz : Nat) (h : ¬ (inR v (nI 0) (nI 5) ∧ inR w (nI 1500) (nI 3500))) : kMi l yX3_setSetpoint wsX3_setSetpoint rmX3_setSetpoint D (kT cI cZ cO cJ) [.ref (y 0), .int v, .int w] (wM cI cZ y Lo Se Ef gp gi am li dl ck T Su Dm F Sp C Ho th) (wM cI cZ y Lo Se Ef gp gi am li dl ck T Su Dm F Sp C Ho (nI 1)) sz (nI 0) := by
  refine kEnter (cc := cX3_setSetpoint) (maxL := 4) (ret := some .int) (by decide +kernel) rfl (Nat.le_of_ble_eq_true rfl) ?_
  intro p e s m below meth c args hx hb hr hml hts hown hlocks hin hK hN A hA9 Q hQ9 hP hD hsz hS hA ls hl
  have hl : lv_has ls 4 [(0, .ref (y 0)), (1, .int v), (2, .int w)] := hl
  have hi_X3 : ∀ w ∈ u_ws RX3 TX3 17, w ∈ wsX3_setSetpoint := by decide +kernel
  obtain ⟨H, hH9⟩ : ∃ H, H = s.heap := ⟨_, rfl⟩
  rw [← hH9] at hP ⊢
  have hS : va_S A s.heap H [] := by rw [hH9]; exact va_S.rf
  by_cases g0 : inR v (nI 0) (nI 5)
  · have g1 : ¬ inR w (nI 1500) (nI 3500) := fun q => h ⟨g0, q⟩
    refine lv_aload_n hx hb dX3_setSetpoint_0 rfl (lv_at hl 0 rfl) ?_
    refine lv_iload_n hx hb dX3_setSetpoint_1 rfl (lv_at hl 1 rfl) ?_
    refine kCall_i (W0 := []) (W1 := []) hP hD hS hA [] rfl rfl (va_runS (As := [.int v]) (rest := [.ref (y 0)]) ⟨hx, hb, hml, hown, hts⟩ (c_X3_isZone_ok l D cI cZ cO cJ v H.size g0) (va_cwS (rm := rmX3_isZone) 1 hts gX3_setSetpoint_X3_isZone rfl rfl rfl (by decide +kernel) ⟨Nat.le_of_ble_eq_true rfl, Nat.le_of_ble_eq_true rfl⟩) (kPreS hK hN hP hD [] rfl rfl) rfl rfl hl.1 rfl (lv_room (Nat.le_of_ble_eq_true rfl)) dX3_setSetpoint_2 ⟨Nat.zero_le _, Nat.zero_le _⟩) (fun H locs hP hD hS => ?_)
    have hP : va_P D vwCl (wM cI cZ y Lo Se Ef gp gi am li dl ck T Su Dm F Sp C Ho th) H := hP
    have hD : va_D A (wM cI cZ y Lo Se Ef gp gi am li dl ck T Su Dm F Sp C Ho th) := hD
    refine lv_if_eq (tgt := 25) hx hb dX3_setSetpoint_5 (by decide) (fun c9 => absurd c9 (by decide +kernel)) (fun _ => ?_)
    refine lv_iload_n hx hb dX3_setSetpoint_8 rfl (lv_at hl 2 rfl) ?_
    refine lv_sipush (v := nI 1500) hx hb dX3_setSetpoint_9 (by decide +kernel) ?_
    refine lv_sipush (v := nI 3500) hx hb dX3_setSetpoint_12 (by decide +kernel) ?_
    refine kCall_i (W0 := []) (W1 := []) hP hD hS hA [] rfl rfl (va_runS (As := [.int w, .int (nI 1500), .int (nI 3500)]) (rest := [.ref (y 0)]) ⟨hx, hb, hml, hown, hts⟩ (c_X3_isIn_bad l D cI cZ cO cJ w (nI 1500) (nI 3500) H.size g1) (va_cwS (rm := rmX3_isIn) 3 hts gX3_setSetpoint_X3_isIn rfl rfl rfl (by decide +kernel) ⟨Nat.le_of_ble_eq_true rfl, Nat.le_of_ble_eq_true rfl⟩) (kPreS hK hN hP hD [] rfl rfl) rfl rfl hl.1 rfl (lv_room (Nat.le_of_ble_eq_true rfl)) dX3_setSetpoint_15 ⟨Nat.zero_le _, Nat.zero_le _⟩) (fun H locs hP hD hS => ?_)
    have hP : va_P D vwCl (wM cI cZ y Lo Se Ef gp gi am li dl ck T Su Dm F Sp C Ho th) H := hP
    have hD : va_D A (wM cI cZ y Lo Se Ef gp gi am li dl ck T Su Dm F Sp C Ho th) := hD
    refine lv_if_eq (tgt := 25) hx hb dX3_setSetpoint_18 (by decide) (fun _ => ?_) (fun c9 => absurd (by decide +kernel) c9)
    refine lv_iconst (v := nI 1) hx hb dX3_setSetpoint_25 (by decide +kernel) ?_
    refine kCallW_i (W1 := wM cI cZ y Lo Se Ef gp gi am li dl ck T Su Dm F Sp C Ho (nI 1)) hD hS hA rfl (va_runV (As := [.int (nI 1)]) (rest := []) ⟨hx, hb, hml, hown, hts⟩ (c_X3_goes_1 l D cI cZ cO cJ y Lo Se Ef gp gi am li dl ck T Su Dm F Sp C Ho th (nI 1) H.size (by decide +kernel)) (cwV (rm := rmX3_goes) 1 hts gX3_setSetpoint_X3_goes rfl rfl rfl (by decide +kernel) ⟨Nat.le_of_ble_eq_true rfl, Nat.le_of_ble_eq_true rfl⟩) (kPreVW hK hN hP hD (va_recv hK hP (ci := 3) (q0 := 0) rfl rfl)) rfl rfl hl.1 rfl (lv_room (Nat.le_of_ble_eq_true rfl)) dX3_setSetpoint_26 ⟨Nat.zero_le _, Nat.zero_le _⟩) (fun H locs hP hD hS => ?_)
    refine lv_if_ne (tgt := 34) hx hb dX3_setSetpoint_29 (by decide) (fun c9 => absurd (by decide +kernel) c9) (fun _ => ?_)
    refine lv_iconst (v := nI 0) hx hb dX3_setSetpoint_32 (by decide +kernel) ?_
    subst hQ9
    subst hA9
    exact kRet_i hx hb hr hlocks hP hS dX3_setSetpoint_33 rfl
  · refine lv_aload_n hx hb dX3_setSetpoint_0 rfl (lv_at hl 0 rfl) ?_
    refine lv_iload_n hx hb dX3_setSetpoint_1 rfl (lv_at hl 1 rfl) ?_
    refine kCall_i (W0 := []) (W1 := []) hP hD hS hA [] rfl rfl (va_runS (As := [.int v]) (rest := [.ref (y 0)]) ⟨hx, hb, hml, hown, hts⟩ (c_X3_isZone_bad l D cI cZ cO cJ v H.size g0) (va_cwS (rm := rmX3_isZone) 1 hts gX3_setSetpoint_X3_isZone rfl rfl rfl (by decide +kernel) ⟨Nat.le_of_ble_eq_true rfl, Nat.le_of_ble_eq_true rfl⟩) (kPreS hK hN hP hD [] rfl rfl) rfl rfl hl.1 rfl (lv_room (Nat.le_of_ble_eq_true rfl)) dX3_setSetpoint_2 ⟨Nat.zero_le _, Nat.zero_le _⟩) (fun H locs hP hD hS => ?_)
    have hP : va_P D vwCl (wM cI cZ y Lo Se Ef gp gi am li dl ck T Su Dm F Sp C Ho th) H := hP
    have hD : va_D A (wM cI cZ y Lo Se Ef gp gi am li dl ck T Su Dm F Sp C Ho th) := hD
    refine lv_if_eq (tgt := 25) hx hb dX3_setSetpoint_5 (by decide) (fun _ => ?_) (fun c9 => absurd (by decide +kernel) c9)
    refine lv_iconst (v := nI 1) hx hb dX3_setSetpoint_25 (by decide +kernel) ?_
    refine kCallW_i (W1 := wM cI cZ y Lo Se Ef gp gi am li dl ck T Su Dm F Sp C Ho (nI 1)) hD hS hA rfl (va_runV (As := [.int (nI 1)]) (rest := []) ⟨hx, hb, hml, hown, hts⟩ (c_X3_goes_1 l D cI cZ cO cJ y Lo Se Ef gp gi am li dl ck T Su Dm F Sp C Ho th (nI 1) H.size (by decide +kernel)) (cwV (rm := rmX3_goes) 1 hts gX3_setSetpoint_X3_goes rfl rfl rfl (by decide +kernel) ⟨Nat.le_of_ble_eq_true rfl, Nat.le_of_ble_eq_true rfl⟩) (kPreVW hK hN hP hD (va_recv hK hP (ci := 3) (q0 := 0) rfl rfl)) rfl rfl hl.1 rfl (lv_room (Nat.le_of_ble_eq_true rfl)) dX3_setSetpoint_26 ⟨Nat.zero_le _, Nat.zero_le _⟩) (fun H locs hP hD hS => ?_)
    refine lv_if_ne (tgt := 34) hx hb dX3_setSetpoint_29 (by decide) (fun c9 => absurd (by decide +kernel) c9) (fun _ => ?_)
    refine lv_iconst (v := nI 0) hx hb dX3_setSetpoint_32 (by decide +kernel) ?_
    subst hQ9
    subst hA9
    exact kRet_i hx hb hr hlocks hP hS dX3_setSetpoint_33 rfl

abbrev rmX3_setEffect : Room := { frames := 2, cells := 0, slots := 0, locals := 42 }
set_option maxHeartbeats 4000000 in
set_option maxRecDepth 100000 in
/-- setEffect_ok -/
theorem c_X3_setEffect_ok (l : Launch) (D : va_G) (cI cZ cO cJ : ClassId) (y : Nat → Nat) (Lo Se Ef : Nat → Int32) (gp gi am li : Int32) (dl : Nat) (ck : Nat → Nat) (T Su Dm F Sp C Ho : Nat → Int32) (th : Int32) (f z : Nat) (v : Int32) (sz : Nat) (hf : f < 8) (hz : z < 6) (h : inR v (nI 0) (nI 100)) : kMi l yX3_setEffect wsX3_setEffect rmX3_setEffect D (kT cI cZ cO cJ) [.ref (y 0), .int (nI f), .int (nI z), .int v] (wM cI cZ y Lo Se Ef gp gi am li dl ck T Su Dm F Sp C Ho th) (wM cI cZ y Lo Se (upd Ef (6 * f + z) v) gp gi am li dl ck T Su Dm F Sp C Ho (nI 0)) sz (Ef (6 * f + z)) := by
  refine kEnter (cc := cX3_setEffect) (maxL := 5) (ret := some .int) (by decide +kernel) rfl (Nat.le_of_ble_eq_true rfl) ?_
  intro p e s m below meth c args hx hb hr hml hts hown hlocks hin hK hN A hA9 Q hQ9 hP hD hsz hS hA ls hl
  have hl : lv_has ls 5 [(0, .ref (y 0)), (1, .int (nI f)), (2, .int (nI z)), (3, .int v)] := hl
  have hi_X3 : ∀ w ∈ u_ws RX3 TX3 17, w ∈ wsX3_setEffect := by decide +kernel
  obtain ⟨H, hH9⟩ : ∃ H, H = s.heap := ⟨_, rfl⟩
  rw [← hH9] at hP ⊢
  have hS : va_S A s.heap H [] := by rw [hH9]; exact va_S.rf
  refine lv_aload_n hx hb dX3_setEffect_0 rfl (lv_at hl 0 rfl) ?_
  refine lv_iload_n hx hb dX3_setEffect_1 rfl (lv_at hl 1 rfl) ?_
  refine kCall_i (W0 := []) (W1 := []) hP hD hS hA [] rfl rfl (va_runS (As := [.int (nI f)]) (rest := [.ref (y 0)]) ⟨hx, hb, hml, hown, hts⟩ (c_X3_isFan_ok l D cI cZ cO cJ (nI f) H.size (inR_nI (by omega) (by omega) (by decide))) (va_cwS (rm := rmX3_isFan) 1 hts gX3_setEffect_X3_isFan rfl rfl rfl (by decide +kernel) ⟨Nat.le_of_ble_eq_true rfl, Nat.le_of_ble_eq_true rfl⟩) (kPreS hK hN hP hD [] rfl rfl) rfl rfl hl.1 rfl (lv_room (Nat.le_of_ble_eq_true rfl)) dX3_setEffect_2 ⟨Nat.zero_le _, Nat.zero_le _⟩) (fun H locs hP hD hS => ?_)
  have hP : va_P D vwCl (wM cI cZ y Lo Se Ef gp gi am li dl ck T Su Dm F Sp C Ho th) H := hP
  have hD : va_D A (wM cI cZ y Lo Se Ef gp gi am li dl ck T Su Dm F Sp C Ho th) := hD
  refine lv_if_eq (tgt := 29) hx hb dX3_setEffect_5 (by decide) (fun c9 => absurd c9 (by decide +kernel)) (fun _ => ?_)
  refine lv_iload_n hx hb dX3_setEffect_8 rfl (lv_at hl 2 rfl) ?_
  refine kCall_i (W0 := []) (W1 := []) hP hD hS hA [] rfl rfl (va_runS (As := [.int (nI z)]) (rest := [.ref (y 0)]) ⟨hx, hb, hml, hown, hts⟩ (c_X3_isZone_ok l D cI cZ cO cJ (nI z) H.size (inR_nI (by omega) (by omega) (by decide))) (va_cwS (rm := rmX3_isZone) 1 hts gX3_setEffect_X3_isZone rfl rfl rfl (by decide +kernel) ⟨Nat.le_of_ble_eq_true rfl, Nat.le_of_ble_eq_true rfl⟩) (kPreS hK hN hP hD [] rfl rfl) rfl rfl hl.1 rfl (lv_room (Nat.le_of_ble_eq_true rfl)) dX3_setEffect_9 ⟨Nat.zero_le _, Nat.zero_le _⟩) (fun H locs hP hD hS => ?_)
  have hP : va_P D vwCl (wM cI cZ y Lo Se Ef gp gi am li dl ck T Su Dm F Sp C Ho th) H := hP
  have hD : va_D A (wM cI cZ y Lo Se Ef gp gi am li dl ck T Su Dm F Sp C Ho th) := hD
  refine lv_if_eq (tgt := 29) hx hb dX3_setEffect_12 (by decide) (fun c9 => absurd c9 (by decide +kernel)) (fun _ => ?_)
  refine lv_iload_n hx hb dX3_setEffect_15 rfl (lv_at hl 3 rfl) ?_
  refine lv_iconst (v := nI 0) hx hb dX3_setEffect_16 (by decide +kernel) ?_
  refine lv_bipush (v := nI 100) hx hb dX3_setEffect_17 (by decide +kernel) ?_
  refine kCall_i (W0 := []) (W1 := []) hP hD hS hA [] rfl rfl (va_runS (As := [.int v, .int (nI 0), .int (nI 100)]) (rest := [.ref (y 0)]) ⟨hx, hb, hml, hown, hts⟩ (c_X3_isIn_ok l D cI cZ cO cJ v (nI 0) (nI 100) H.size h) (va_cwS (rm := rmX3_isIn) 3 hts gX3_setEffect_X3_isIn rfl rfl rfl (by decide +kernel) ⟨Nat.le_of_ble_eq_true rfl, Nat.le_of_ble_eq_true rfl⟩) (kPreS hK hN hP hD [] rfl rfl) rfl rfl hl.1 rfl (lv_room (Nat.le_of_ble_eq_true rfl)) dX3_setEffect_19 ⟨Nat.zero_le _, Nat.zero_le _⟩) (fun H locs hP hD hS => ?_)
  have hP : va_P D vwCl (wM cI cZ y Lo Se Ef gp gi am li dl ck T Su Dm F Sp C Ho th) H := hP
  have hD : va_D A (wM cI cZ y Lo Se Ef gp gi am li dl ck T Su Dm F Sp C Ho th) := hD
  refine lv_if_eq (tgt := 29) hx hb dX3_setEffect_22 (by decide) (fun c9 => absurd c9 (by decide +kernel)) (fun _ => ?_)
  refine lv_iconst (v := nI 0) hx hb dX3_setEffect_25 (by decide +kernel) ?_
  refine lv_goto (tgt := 30) hx hb dX3_setEffect_26 (by decide) ?_
  refine kCallW_i (W1 := wM cI cZ y Lo Se Ef gp gi am li dl ck T Su Dm F Sp C Ho (nI 0)) hD hS hA rfl (va_runV (As := [.int (nI 0)]) (rest := []) ⟨hx, hb, hml, hown, hts⟩ (c_X3_goes_0 l D cI cZ cO cJ y Lo Se Ef gp gi am li dl ck T Su Dm F Sp C Ho th (nI 0) H.size (by decide +kernel)) (cwV (rm := rmX3_goes) 1 hts gX3_setEffect_X3_goes rfl rfl rfl (by decide +kernel) ⟨Nat.le_of_ble_eq_true rfl, Nat.le_of_ble_eq_true rfl⟩) (kPreVW hK hN hP hD (va_recv hK hP (ci := 3) (q0 := 0) rfl rfl)) rfl rfl hl.1 rfl (lv_room (Nat.le_of_ble_eq_true rfl)) dX3_setEffect_30 ⟨Nat.zero_le _, Nat.zero_le _⟩) (fun H locs hP hD hS => ?_)
  refine lv_if_ne (tgt := 38) hx hb dX3_setEffect_33 (by decide) (fun _ => ?_) (fun c9 => absurd c9 (by decide +kernel))
  refine lv_aload_n hx hb dX3_setEffect_38 rfl (lv_at hl 0 rfl) ?_
  refine va_get (D := D) (ci := 3) (v := .ref (y 3)) (C := RX3) (T := TX3) (N := 17) hx hb hts hi_X3 hown hK hP 0 rfl rfl 2 (by decide) (hts (.fieldLink RX3 16 "ColdaisleModel" "effects" "[I") (by decide +kernel)) (fun _ h9 => h9) rfl dX3_setEffect_39 ?_
  refine lv_bipush (v := nI 6) hx hb dX3_setEffect_42 (by decide +kernel) ?_
  refine lv_iload_n hx hb dX3_setEffect_44 rfl (lv_at hl 1 rfl) ?_
  refine lv_imul hx hb dX3_setEffect_45 ?_
  refine k_as (pk_mul _ _) ?_
  refine lv_iload_n hx hb dX3_setEffect_46 rfl (lv_at hl 2 rfl) ?_
  refine lv_iadd hx hb dX3_setEffect_47 ?_
  refine k_as (nI_add _ _) ?_
  refine k_iald hx hb hK hP 3 0 rfl rfl (i := 6 * f + z) (by omega) (by decide) dX3_setEffect_48 ?_
  refine lv_istore (lv' := [(4, .int (Ef (6 * f + z))), (0, .ref (y 0)), (1, .int (nI f)), (2, .int (nI z)), (3, .int v)]) hx hb dX3_setEffect_49 hl (by decide) rfl (fun ls hl => ?_)
  refine lv_aload_n hx hb dX3_setEffect_51 rfl (lv_at hl 1 rfl) ?_
  refine va_get (D := D) (ci := 3) (v := .ref (y 3)) (C := RX3) (T := TX3) (N := 17) hx hb hts hi_X3 hown hK hP 0 rfl rfl 2 (by decide) (hts (.fieldLink RX3 16 "ColdaisleModel" "effects" "[I") (by decide +kernel)) (fun _ h9 => h9) rfl dX3_setEffect_52 ?_
  refine lv_bipush (v := nI 6) hx hb dX3_setEffect_55 (by decide +kernel) ?_
  refine lv_iload_n hx hb dX3_setEffect_57 rfl (lv_at hl 2 rfl) ?_
  refine lv_imul hx hb dX3_setEffect_58 ?_
  refine k_as (pk_mul _ _) ?_
  refine lv_iload_n hx hb dX3_setEffect_59 rfl (lv_at hl 3 rfl) ?_
  refine lv_iadd hx hb dX3_setEffect_60 ?_
  refine k_as (nI_add _ _) ?_
  refine lv_iload_n hx hb dX3_setEffect_61 rfl (lv_at hl 4 rfl) ?_
  refine k_iast hx hb hK hP hD hS 3 0 rfl rfl (i := 6 * f + z) (x := v) (by omega) (by decide) dX3_setEffect_62 (fun H locs hP hD hS => ?_)
  have hP : va_P D vwCl (wM cI cZ y Lo Se (upd Ef (6 * f + z) v) gp gi am li dl ck T Su Dm F Sp C Ho (nI 0)) H := hP
  have hD : va_D A (wM cI cZ y Lo Se (upd Ef (6 * f + z) v) gp gi am li dl ck T Su Dm F Sp C Ho (nI 0)) := hD
  refine lv_iload hx hb dX3_setEffect_63 (lv_at hl 0 rfl) ?_
  subst hQ9
  subst hA9
  exact kRet_i hx hb hr hlocks hP hS dX3_setEffect_65 rfl

set_option maxHeartbeats 4000000 in
set_option maxRecDepth 100000 in
/-- setEffect_bad -/
theorem c_X3_setEffect_bad (l : Launch) (D : va_G) (cI cZ cO cJ : ClassId) (y : Nat → Nat) (Lo Se Ef : Nat → Int32) (gp gi am li : Int32) (dl : Nat) (ck : Nat → Nat) (T Su Dm F Sp C Ho : Nat → Int32) (th : Int32) (u9 v w : Int32) (sz : Nat) (h : ¬ (inR u9 (nI 0) (nI 7) ∧ inR v (nI 0) (nI 5) ∧ inR w (nI 0) (nI 100))) : kMi l yX3_setEffect wsX3_setEffect rmX3_setEffect D (kT cI cZ cO cJ) [.ref (y 0), .int u9, .int v, .int w] (wM cI cZ y Lo Se Ef gp gi am li dl ck T Su Dm F Sp C Ho th) (wM cI cZ y Lo Se Ef gp gi am li dl ck T Su Dm F Sp C Ho (nI 1)) sz (nI 0) := by
  refine kEnter (cc := cX3_setEffect) (maxL := 5) (ret := some .int) (by decide +kernel) rfl (Nat.le_of_ble_eq_true rfl) ?_
  intro p e s m below meth c args hx hb hr hml hts hown hlocks hin hK hN A hA9 Q hQ9 hP hD hsz hS hA ls hl
  have hl : lv_has ls 5 [(0, .ref (y 0)), (1, .int u9), (2, .int v), (3, .int w)] := hl
  have hi_X3 : ∀ w ∈ u_ws RX3 TX3 17, w ∈ wsX3_setEffect := by decide +kernel
  obtain ⟨H, hH9⟩ : ∃ H, H = s.heap := ⟨_, rfl⟩
  rw [← hH9] at hP ⊢
  have hS : va_S A s.heap H [] := by rw [hH9]; exact va_S.rf
  by_cases g0 : inR u9 (nI 0) (nI 7)
  · by_cases g1 : inR v (nI 0) (nI 5)
    · have g2 : ¬ inR w (nI 0) (nI 100) := fun q9 => h ⟨g0, g1, q9⟩
      refine lv_aload_n hx hb dX3_setEffect_0 rfl (lv_at hl 0 rfl) ?_
      refine lv_iload_n hx hb dX3_setEffect_1 rfl (lv_at hl 1 rfl) ?_
      refine kCall_i (W0 := []) (W1 := []) hP hD hS hA [] rfl rfl (va_runS (As := [.int u9]) (rest := [.ref (y 0)]) ⟨hx, hb, hml, hown, hts⟩ (c_X3_isFan_ok l D cI cZ cO cJ u9 H.size g0) (va_cwS (rm := rmX3_isFan) 1 hts gX3_setEffect_X3_isFan rfl rfl rfl (by decide +kernel) ⟨Nat.le_of_ble_eq_true rfl, Nat.le_of_ble_eq_true rfl⟩) (kPreS hK hN hP hD [] rfl rfl) rfl rfl hl.1 rfl (lv_room (Nat.le_of_ble_eq_true rfl)) dX3_setEffect_2 ⟨Nat.zero_le _, Nat.zero_le _⟩) (fun H locs hP hD hS => ?_)
      have hP : va_P D vwCl (wM cI cZ y Lo Se Ef gp gi am li dl ck T Su Dm F Sp C Ho th) H := hP
      have hD : va_D A (wM cI cZ y Lo Se Ef gp gi am li dl ck T Su Dm F Sp C Ho th) := hD
      refine lv_if_eq (tgt := 29) hx hb dX3_setEffect_5 (by decide) (fun c9 => absurd c9 (by decide +kernel)) (fun _ => ?_)
      refine lv_iload_n hx hb dX3_setEffect_8 rfl (lv_at hl 2 rfl) ?_
      refine kCall_i (W0 := []) (W1 := []) hP hD hS hA [] rfl rfl (va_runS (As := [.int v]) (rest := [.ref (y 0)]) ⟨hx, hb, hml, hown, hts⟩ (c_X3_isZone_ok l D cI cZ cO cJ v H.size g1) (va_cwS (rm := rmX3_isZone) 1 hts gX3_setEffect_X3_isZone rfl rfl rfl (by decide +kernel) ⟨Nat.le_of_ble_eq_true rfl, Nat.le_of_ble_eq_true rfl⟩) (kPreS hK hN hP hD [] rfl rfl) rfl rfl hl.1 rfl (lv_room (Nat.le_of_ble_eq_true rfl)) dX3_setEffect_9 ⟨Nat.zero_le _, Nat.zero_le _⟩) (fun H locs hP hD hS => ?_)
      have hP : va_P D vwCl (wM cI cZ y Lo Se Ef gp gi am li dl ck T Su Dm F Sp C Ho th) H := hP
      have hD : va_D A (wM cI cZ y Lo Se Ef gp gi am li dl ck T Su Dm F Sp C Ho th) := hD
      refine lv_if_eq (tgt := 29) hx hb dX3_setEffect_12 (by decide) (fun c9 => absurd c9 (by decide +kernel)) (fun _ => ?_)
      refine lv_iload_n hx hb dX3_setEffect_15 rfl (lv_at hl 3 rfl) ?_
      refine lv_iconst (v := nI 0) hx hb dX3_setEffect_16 (by decide +kernel) ?_
      refine lv_bipush (v := nI 100) hx hb dX3_setEffect_17 (by decide +kernel) ?_
      refine kCall_i (W0 := []) (W1 := []) hP hD hS hA [] rfl rfl (va_runS (As := [.int w, .int (nI 0), .int (nI 100)]) (rest := [.ref (y 0)]) ⟨hx, hb, hml, hown, hts⟩ (c_X3_isIn_bad l D cI cZ cO cJ w (nI 0) (nI 100) H.size g2) (va_cwS (rm := rmX3_isIn) 3 hts gX3_setEffect_X3_isIn rfl rfl rfl (by decide +kernel) ⟨Nat.le_of_ble_eq_true rfl, Nat.le_of_ble_eq_true rfl⟩) (kPreS hK hN hP hD [] rfl rfl) rfl rfl hl.1 rfl (lv_room (Nat.le_of_ble_eq_true rfl)) dX3_setEffect_19 ⟨Nat.zero_le _, Nat.zero_le _⟩) (fun H locs hP hD hS => ?_)
      have hP : va_P D vwCl (wM cI cZ y Lo Se Ef gp gi am li dl ck T Su Dm F Sp C Ho th) H := hP
      have hD : va_D A (wM cI cZ y Lo Se Ef gp gi am li dl ck T Su Dm F Sp C Ho th) := hD
      refine lv_if_eq (tgt := 29) hx hb dX3_setEffect_22 (by decide) (fun _ => ?_) (fun c9 => absurd (by decide +kernel) c9)
      refine lv_iconst (v := nI 1) hx hb dX3_setEffect_29 (by decide +kernel) ?_
      refine kCallW_i (W1 := wM cI cZ y Lo Se Ef gp gi am li dl ck T Su Dm F Sp C Ho (nI 1)) hD hS hA rfl (va_runV (As := [.int (nI 1)]) (rest := []) ⟨hx, hb, hml, hown, hts⟩ (c_X3_goes_1 l D cI cZ cO cJ y Lo Se Ef gp gi am li dl ck T Su Dm F Sp C Ho th (nI 1) H.size (by decide +kernel)) (cwV (rm := rmX3_goes) 1 hts gX3_setEffect_X3_goes rfl rfl rfl (by decide +kernel) ⟨Nat.le_of_ble_eq_true rfl, Nat.le_of_ble_eq_true rfl⟩) (kPreVW hK hN hP hD (va_recv hK hP (ci := 3) (q0 := 0) rfl rfl)) rfl rfl hl.1 rfl (lv_room (Nat.le_of_ble_eq_true rfl)) dX3_setEffect_30 ⟨Nat.zero_le _, Nat.zero_le _⟩) (fun H locs hP hD hS => ?_)
      refine lv_if_ne (tgt := 38) hx hb dX3_setEffect_33 (by decide) (fun c9 => absurd (by decide +kernel) c9) (fun _ => ?_)
      refine lv_iconst (v := nI 0) hx hb dX3_setEffect_36 (by decide +kernel) ?_
      subst hQ9
      subst hA9
      exact kRet_i hx hb hr hlocks hP hS dX3_setEffect_37 rfl
    · refine lv_aload_n hx hb dX3_setEffect_0 rfl (lv_at hl 0 rfl) ?_
      refine lv_iload_n hx hb dX3_setEffect_1 rfl (lv_at hl 1 rfl) ?_
      refine kCall_i (W0 := []) (W1 := []) hP hD hS hA [] rfl rfl (va_runS (As := [.int u9]) (rest := [.ref (y 0)]) ⟨hx, hb, hml, hown, hts⟩ (c_X3_isFan_ok l D cI cZ cO cJ u9 H.size g0) (va_cwS (rm := rmX3_isFan) 1 hts gX3_setEffect_X3_isFan rfl rfl rfl (by decide +kernel) ⟨Nat.le_of_ble_eq_true rfl, Nat.le_of_ble_eq_true rfl⟩) (kPreS hK hN hP hD [] rfl rfl) rfl rfl hl.1 rfl (lv_room (Nat.le_of_ble_eq_true rfl)) dX3_setEffect_2 ⟨Nat.zero_le _, Nat.zero_le _⟩) (fun H locs hP hD hS => ?_)
      have hP : va_P D vwCl (wM cI cZ y Lo Se Ef gp gi am li dl ck T Su Dm F Sp C Ho th) H := hP
      have hD : va_D A (wM cI cZ y Lo Se Ef gp gi am li dl ck T Su Dm F Sp C Ho th) := hD
      refine lv_if_eq (tgt := 29) hx hb dX3_setEffect_5 (by decide) (fun c9 => absurd c9 (by decide +kernel)) (fun _ => ?_)
      refine lv_iload_n hx hb dX3_setEffect_8 rfl (lv_at hl 2 rfl) ?_
      refine kCall_i (W0 := []) (W1 := []) hP hD hS hA [] rfl rfl (va_runS (As := [.int v]) (rest := [.ref (y 0)]) ⟨hx, hb, hml, hown, hts⟩ (c_X3_isZone_bad l D cI cZ cO cJ v H.size g1) (va_cwS (rm := rmX3_isZone) 1 hts gX3_setEffect_X3_isZone rfl rfl rfl (by decide +kernel) ⟨Nat.le_of_ble_eq_true rfl, Nat.le_of_ble_eq_true rfl⟩) (kPreS hK hN hP hD [] rfl rfl) rfl rfl hl.1 rfl (lv_room (Nat.le_of_ble_eq_true rfl)) dX3_setEffect_9 ⟨Nat.zero_le _, Nat.zero_le _⟩) (fun H locs hP hD hS => ?_)
      have hP : va_P D vwCl (wM cI cZ y Lo Se Ef gp gi am li dl ck T Su Dm F Sp C Ho th) H := hP
      have hD : va_D A (wM cI cZ y Lo Se Ef gp gi am li dl ck T Su Dm F Sp C Ho th) := hD
      refine lv_if_eq (tgt := 29) hx hb dX3_setEffect_12 (by decide) (fun _ => ?_) (fun c9 => absurd (by decide +kernel) c9)
      refine lv_iconst (v := nI 1) hx hb dX3_setEffect_29 (by decide +kernel) ?_
      refine kCallW_i (W1 := wM cI cZ y Lo Se Ef gp gi am li dl ck T Su Dm F Sp C Ho (nI 1)) hD hS hA rfl (va_runV (As := [.int (nI 1)]) (rest := []) ⟨hx, hb, hml, hown, hts⟩ (c_X3_goes_1 l D cI cZ cO cJ y Lo Se Ef gp gi am li dl ck T Su Dm F Sp C Ho th (nI 1) H.size (by decide +kernel)) (cwV (rm := rmX3_goes) 1 hts gX3_setEffect_X3_goes rfl rfl rfl (by decide +kernel) ⟨Nat.le_of_ble_eq_true rfl, Nat.le_of_ble_eq_true rfl⟩) (kPreVW hK hN hP hD (va_recv hK hP (ci := 3) (q0 := 0) rfl rfl)) rfl rfl hl.1 rfl (lv_room (Nat.le_of_ble_eq_true rfl)) dX3_setEffect_30 ⟨Nat.zero_le _, Nat.zero_le _⟩) (fun H locs hP hD hS => ?_)
      refine lv_if_ne (tgt := 38) hx hb dX3_setEffect_33 (by decide) (fun c9 => absurd (by decide +kernel) c9) (fun _ => ?_)
      refine lv_iconst (v := nI 0) hx hb dX3_setEffect_36 (by decide +kernel) ?_
      subst hQ9
      subst hA9
      exact kRet_i hx hb hr hlocks hP hS dX3_setEffect_37 rfl
  · refine lv_aload_n hx hb dX3_setEffect_0 rfl (lv_at hl 0 rfl) ?_
    refine lv_iload_n hx hb dX3_setEffect_1 rfl (lv_at hl 1 rfl) ?_
    refine kCall_i (W0 := []) (W1 := []) hP hD hS hA [] rfl rfl (va_runS (As := [.int u9]) (rest := [.ref (y 0)]) ⟨hx, hb, hml, hown, hts⟩ (c_X3_isFan_bad l D cI cZ cO cJ u9 H.size g0) (va_cwS (rm := rmX3_isFan) 1 hts gX3_setEffect_X3_isFan rfl rfl rfl (by decide +kernel) ⟨Nat.le_of_ble_eq_true rfl, Nat.le_of_ble_eq_true rfl⟩) (kPreS hK hN hP hD [] rfl rfl) rfl rfl hl.1 rfl (lv_room (Nat.le_of_ble_eq_true rfl)) dX3_setEffect_2 ⟨Nat.zero_le _, Nat.zero_le _⟩) (fun H locs hP hD hS => ?_)
    have hP : va_P D vwCl (wM cI cZ y Lo Se Ef gp gi am li dl ck T Su Dm F Sp C Ho th) H := hP
    have hD : va_D A (wM cI cZ y Lo Se Ef gp gi am li dl ck T Su Dm F Sp C Ho th) := hD
    refine lv_if_eq (tgt := 29) hx hb dX3_setEffect_5 (by decide) (fun _ => ?_) (fun c9 => absurd (by decide +kernel) c9)
    refine lv_iconst (v := nI 1) hx hb dX3_setEffect_29 (by decide +kernel) ?_
    refine kCallW_i (W1 := wM cI cZ y Lo Se Ef gp gi am li dl ck T Su Dm F Sp C Ho (nI 1)) hD hS hA rfl (va_runV (As := [.int (nI 1)]) (rest := []) ⟨hx, hb, hml, hown, hts⟩ (c_X3_goes_1 l D cI cZ cO cJ y Lo Se Ef gp gi am li dl ck T Su Dm F Sp C Ho th (nI 1) H.size (by decide +kernel)) (cwV (rm := rmX3_goes) 1 hts gX3_setEffect_X3_goes rfl rfl rfl (by decide +kernel) ⟨Nat.le_of_ble_eq_true rfl, Nat.le_of_ble_eq_true rfl⟩) (kPreVW hK hN hP hD (va_recv hK hP (ci := 3) (q0 := 0) rfl rfl)) rfl rfl hl.1 rfl (lv_room (Nat.le_of_ble_eq_true rfl)) dX3_setEffect_30 ⟨Nat.zero_le _, Nat.zero_le _⟩) (fun H locs hP hD hS => ?_)
    refine lv_if_ne (tgt := 38) hx hb dX3_setEffect_33 (by decide) (fun c9 => absurd (by decide +kernel) c9) (fun _ => ?_)
    refine lv_iconst (v := nI 0) hx hb dX3_setEffect_36 (by decide +kernel) ?_
    subst hQ9
    subst hA9
    exact kRet_i hx hb hr hlocks hP hS dX3_setEffect_37 rfl

abbrev rmX3_setGains : Room := { frames := 1, cells := 0, slots := 0, locals := 22 }
set_option maxHeartbeats 4000000 in
set_option maxRecDepth 100000 in
/-- setGains_ok -/
theorem c_X3_setGains_ok (l : Launch) (D : va_G) (cI cZ cO cJ : ClassId) (y : Nat → Nat) (Lo Se Ef : Nat → Int32) (gp gi am li : Int32) (dl : Nat) (ck : Nat → Nat) (T Su Dm F Sp C Ho : Nat → Int32) (th : Int32) (v w : Int32) (sz : Nat) (h : inR v (nI 0) (nI 200)) (h2 : inR w (nI 0) (nI 200)) : kMv l yX3_setGains wsX3_setGains rmX3_setGains D (kT cI cZ cO cJ) [.ref (y 0), .int v, .int w] (wM cI cZ y Lo Se Ef gp gi am li dl ck T Su Dm F Sp C Ho th) (wM cI cZ y Lo Se Ef v w am li dl ck T Su Dm F Sp C Ho (nI 0)) sz := by
  refine kEnter (cc := cX3_setGains) (maxL := 3) (ret := none) (by decide +kernel) rfl (Nat.le_of_ble_eq_true rfl) ?_
  intro p e s m below meth c args hx hb hr hml hts hown hlocks hin hK hN A hA9 Q hQ9 hP hD hsz hS hA ls hl
  have hl : lv_has ls 3 [(0, .ref (y 0)), (1, .int v), (2, .int w)] := hl
  have hi_X3 : ∀ w ∈ u_ws RX3 TX3 17, w ∈ wsX3_setGains := by decide +kernel
  obtain ⟨H, hH9⟩ : ∃ H, H = s.heap := ⟨_, rfl⟩
  rw [← hH9] at hP ⊢
  have hS : va_S A s.heap H [] := by rw [hH9]; exact va_S.rf
  refine lv_aload_n hx hb dX3_setGains_0 rfl (lv_at hl 0 rfl) ?_
  refine lv_iload_n hx hb dX3_setGains_1 rfl (lv_at hl 1 rfl) ?_
  refine lv_iconst (v := nI 0) hx hb dX3_setGains_2 (by decide +kernel) ?_
  refine lv_sipush (v := nI 200) hx hb dX3_setGains_3 (by decide +kernel) ?_
  refine kCall_i (W0 := []) (W1 := []) hP hD hS hA [] rfl rfl (va_runS (As := [.int v, .int (nI 0), .int (nI 200)]) (rest := [.ref (y 0)]) ⟨hx, hb, hml, hown, hts⟩ (c_X3_isIn_ok l D cI cZ cO cJ v (nI 0) (nI 200) H.size h) (va_cwS (rm := rmX3_isIn) 3 hts gX3_setGains_X3_isIn rfl rfl rfl (by decide +kernel) ⟨Nat.le_of_ble_eq_true rfl, Nat.le_of_ble_eq_true rfl⟩) (kPreS hK hN hP hD [] rfl rfl) rfl rfl hl.1 rfl (lv_room (Nat.le_of_ble_eq_true rfl)) dX3_setGains_6 ⟨Nat.zero_le _, Nat.zero_le _⟩) (fun H locs hP hD hS => ?_)
  have hP : va_P D vwCl (wM cI cZ y Lo Se Ef gp gi am li dl ck T Su Dm F Sp C Ho th) H := hP
  have hD : va_D A (wM cI cZ y Lo Se Ef gp gi am li dl ck T Su Dm F Sp C Ho th) := hD
  refine lv_if_eq (tgt := 27) hx hb dX3_setGains_9 (by decide) (fun c9 => absurd c9 (by decide +kernel)) (fun _ => ?_)
  refine lv_iload_n hx hb dX3_setGains_12 rfl (lv_at hl 2 rfl) ?_
  refine lv_iconst (v := nI 0) hx hb dX3_setGains_13 (by decide +kernel) ?_
  refine lv_sipush (v := nI 200) hx hb dX3_setGains_14 (by decide +kernel) ?_
  refine kCall_i (W0 := []) (W1 := []) hP hD hS hA [] rfl rfl (va_runS (As := [.int w, .int (nI 0), .int (nI 200)]) (rest := [.ref (y 0)]) ⟨hx, hb, hml, hown, hts⟩ (c_X3_isIn_ok l D cI cZ cO cJ w (nI 0) (nI 200) H.size h2) (va_cwS (rm := rmX3_isIn) 3 hts gX3_setGains_X3_isIn rfl rfl rfl (by decide +kernel) ⟨Nat.le_of_ble_eq_true rfl, Nat.le_of_ble_eq_true rfl⟩) (kPreS hK hN hP hD [] rfl rfl) rfl rfl hl.1 rfl (lv_room (Nat.le_of_ble_eq_true rfl)) dX3_setGains_17 ⟨Nat.zero_le _, Nat.zero_le _⟩) (fun H locs hP hD hS => ?_)
  have hP : va_P D vwCl (wM cI cZ y Lo Se Ef gp gi am li dl ck T Su Dm F Sp C Ho th) H := hP
  have hD : va_D A (wM cI cZ y Lo Se Ef gp gi am li dl ck T Su Dm F Sp C Ho th) := hD
  refine lv_if_eq (tgt := 27) hx hb dX3_setGains_20 (by decide) (fun c9 => absurd c9 (by decide +kernel)) (fun _ => ?_)
  refine lv_iconst (v := nI 0) hx hb dX3_setGains_23 (by decide +kernel) ?_
  refine lv_goto (tgt := 28) hx hb dX3_setGains_24 (by decide) ?_
  refine kCallW_i (W1 := wM cI cZ y Lo Se Ef gp gi am li dl ck T Su Dm F Sp C Ho (nI 0)) hD hS hA rfl (va_runV (As := [.int (nI 0)]) (rest := []) ⟨hx, hb, hml, hown, hts⟩ (c_X3_goes_0 l D cI cZ cO cJ y Lo Se Ef gp gi am li dl ck T Su Dm F Sp C Ho th (nI 0) H.size (by decide +kernel)) (cwV (rm := rmX3_goes) 1 hts gX3_setGains_X3_goes rfl rfl rfl (by decide +kernel) ⟨Nat.le_of_ble_eq_true rfl, Nat.le_of_ble_eq_true rfl⟩) (kPreVW hK hN hP hD (va_recv hK hP (ci := 3) (q0 := 0) rfl rfl)) rfl rfl hl.1 rfl (lv_room (Nat.le_of_ble_eq_true rfl)) dX3_setGains_28 ⟨Nat.zero_le _, Nat.zero_le _⟩) (fun H locs hP hD hS => ?_)
  refine lv_if_eq (tgt := 44) hx hb dX3_setGains_31 (by decide) (fun c9 => absurd c9 (by decide +kernel)) (fun _ => ?_)
  refine lv_aload_n hx hb dX3_setGains_34 rfl (lv_at hl 0 rfl) ?_
  refine lv_iload_n hx hb dX3_setGains_35 rfl (lv_at hl 1 rfl) ?_
  refine va_put (D := D) (ci := 3) (v := .int v) (ty := tyX3 3) (C := RX3) (T := TX3) (N := 17) hx hb hts hi_X3 tyX3 tyX3_ok nmX3 hown hK hP hD hS 0 rfl rfl 3 (by decide) (hts (.fieldLink RX3 19 "ColdaisleModel" "proportional" "I") (by decide +kernel)) (fun _ h9 => h9) rfl (by decide +kernel) rfl rfl (Nat.le_of_ble_eq_true rfl) dX3_setGains_36 (fun H locs hP hD hS => ?_)
  have hP : va_P D vwCl (wM cI cZ y Lo Se Ef v gi am li dl ck T Su Dm F Sp C Ho (nI 0)) H := hP
  have hD : va_D A (wM cI cZ y Lo Se Ef v gi am li dl ck T Su Dm F Sp C Ho (nI 0)) := hD
  refine lv_aload_n hx hb dX3_setGains_39 rfl (lv_at hl 0 rfl) ?_
  refine lv_iload_n hx hb dX3_setGains_40 rfl (lv_at hl 2 rfl) ?_
  refine va_put (D := D) (ci := 3) (v := .int w) (ty := tyX3 4) (C := RX3) (T := TX3) (N := 17) hx hb hts hi_X3 tyX3 tyX3_ok nmX3 hown hK hP hD hS 0 rfl rfl 4 (by decide) (hts (.fieldLink RX3 23 "ColdaisleModel" "integral" "I") (by decide +kernel)) (fun _ h9 => h9) rfl (by decide +kernel) rfl rfl (Nat.le_of_ble_eq_true rfl) dX3_setGains_41 (fun H locs hP hD hS => ?_)
  have hP : va_P D vwCl (wM cI cZ y Lo Se Ef v w am li dl ck T Su Dm F Sp C Ho (nI 0)) H := hP
  have hD : va_D A (wM cI cZ y Lo Se Ef v w am li dl ck T Su Dm F Sp C Ho (nI 0)) := hD
  subst hQ9
  subst hA9
  exact kRet_v hx hb hr hlocks hP hS dX3_setGains_44

set_option maxHeartbeats 4000000 in
set_option maxRecDepth 100000 in
/-- setGains_bad -/
theorem c_X3_setGains_bad (l : Launch) (D : va_G) (cI cZ cO cJ : ClassId) (y : Nat → Nat) (Lo Se Ef : Nat → Int32) (gp gi am li : Int32) (dl : Nat) (ck : Nat → Nat) (T Su Dm F Sp C Ho : Nat → Int32) (th : Int32) (v w : Int32) (sz : Nat) (h : ¬ (inR v (nI 0) (nI 200) ∧ inR w (nI 0) (nI 200))) : kMv l yX3_setGains wsX3_setGains rmX3_setGains D (kT cI cZ cO cJ) [.ref (y 0), .int v, .int w] (wM cI cZ y Lo Se Ef gp gi am li dl ck T Su Dm F Sp C Ho th) (wM cI cZ y Lo Se Ef gp gi am li dl ck T Su Dm F Sp C Ho (nI 1)) sz := by
  refine kEnter (cc := cX3_setGains) (maxL := 3) (ret := none) (by decide +kernel) rfl (Nat.le_of_ble_eq_true rfl) ?_
  intro p e s m below meth c args hx hb hr hml hts hown hlocks hin hK hN A hA9 Q hQ9 hP hD hsz hS hA ls hl
  have hl : lv_has ls 3 [(0, .ref (y 0)), (1, .int v), (2, .int w)] := hl
  have hi_X3 : ∀ w ∈ u_ws RX3 TX3 17, w ∈ wsX3_setGains := by decide +kernel
  obtain ⟨H, hH9⟩ : ∃ H, H = s.heap := ⟨_, rfl⟩
  rw [← hH9] at hP ⊢
  have hS : va_S A s.heap H [] := by rw [hH9]; exact va_S.rf
  by_cases g0 : inR v (nI 0) (nI 200)
  · have g1 : ¬ inR w (nI 0) (nI 200) := fun q => h ⟨g0, q⟩
    refine lv_aload_n hx hb dX3_setGains_0 rfl (lv_at hl 0 rfl) ?_
    refine lv_iload_n hx hb dX3_setGains_1 rfl (lv_at hl 1 rfl) ?_
    refine lv_iconst (v := nI 0) hx hb dX3_setGains_2 (by decide +kernel) ?_
    refine lv_sipush (v := nI 200) hx hb dX3_setGains_3 (by decide +kernel) ?_
    refine kCall_i (W0 := []) (W1 := []) hP hD hS hA [] rfl rfl (va_runS (As := [.int v, .int (nI 0), .int (nI 200)]) (rest := [.ref (y 0)]) ⟨hx, hb, hml, hown, hts⟩ (c_X3_isIn_ok l D cI cZ cO cJ v (nI 0) (nI 200) H.size g0) (va_cwS (rm := rmX3_isIn) 3 hts gX3_setGains_X3_isIn rfl rfl rfl (by decide +kernel) ⟨Nat.le_of_ble_eq_true rfl, Nat.le_of_ble_eq_true rfl⟩) (kPreS hK hN hP hD [] rfl rfl) rfl rfl hl.1 rfl (lv_room (Nat.le_of_ble_eq_true rfl)) dX3_setGains_6 ⟨Nat.zero_le _, Nat.zero_le _⟩) (fun H locs hP hD hS => ?_)
    have hP : va_P D vwCl (wM cI cZ y Lo Se Ef gp gi am li dl ck T Su Dm F Sp C Ho th) H := hP
    have hD : va_D A (wM cI cZ y Lo Se Ef gp gi am li dl ck T Su Dm F Sp C Ho th) := hD
    refine lv_if_eq (tgt := 27) hx hb dX3_setGains_9 (by decide) (fun c9 => absurd c9 (by decide +kernel)) (fun _ => ?_)
    refine lv_iload_n hx hb dX3_setGains_12 rfl (lv_at hl 2 rfl) ?_
    refine lv_iconst (v := nI 0) hx hb dX3_setGains_13 (by decide +kernel) ?_
    refine lv_sipush (v := nI 200) hx hb dX3_setGains_14 (by decide +kernel) ?_
    refine kCall_i (W0 := []) (W1 := []) hP hD hS hA [] rfl rfl (va_runS (As := [.int w, .int (nI 0), .int (nI 200)]) (rest := [.ref (y 0)]) ⟨hx, hb, hml, hown, hts⟩ (c_X3_isIn_bad l D cI cZ cO cJ w (nI 0) (nI 200) H.size g1) (va_cwS (rm := rmX3_isIn) 3 hts gX3_setGains_X3_isIn rfl rfl rfl (by decide +kernel) ⟨Nat.le_of_ble_eq_true rfl, Nat.le_of_ble_eq_true rfl⟩) (kPreS hK hN hP hD [] rfl rfl) rfl rfl hl.1 rfl (lv_room (Nat.le_of_ble_eq_true rfl)) dX3_setGains_17 ⟨Nat.zero_le _, Nat.zero_le _⟩) (fun H locs hP hD hS => ?_)
    have hP : va_P D vwCl (wM cI cZ y Lo Se Ef gp gi am li dl ck T Su Dm F Sp C Ho th) H := hP
    have hD : va_D A (wM cI cZ y Lo Se Ef gp gi am li dl ck T Su Dm F Sp C Ho th) := hD
    refine lv_if_eq (tgt := 27) hx hb dX3_setGains_20 (by decide) (fun _ => ?_) (fun c9 => absurd (by decide +kernel) c9)
    refine lv_iconst (v := nI 1) hx hb dX3_setGains_27 (by decide +kernel) ?_
    refine kCallW_i (W1 := wM cI cZ y Lo Se Ef gp gi am li dl ck T Su Dm F Sp C Ho (nI 1)) hD hS hA rfl (va_runV (As := [.int (nI 1)]) (rest := []) ⟨hx, hb, hml, hown, hts⟩ (c_X3_goes_1 l D cI cZ cO cJ y Lo Se Ef gp gi am li dl ck T Su Dm F Sp C Ho th (nI 1) H.size (by decide +kernel)) (cwV (rm := rmX3_goes) 1 hts gX3_setGains_X3_goes rfl rfl rfl (by decide +kernel) ⟨Nat.le_of_ble_eq_true rfl, Nat.le_of_ble_eq_true rfl⟩) (kPreVW hK hN hP hD (va_recv hK hP (ci := 3) (q0 := 0) rfl rfl)) rfl rfl hl.1 rfl (lv_room (Nat.le_of_ble_eq_true rfl)) dX3_setGains_28 ⟨Nat.zero_le _, Nat.zero_le _⟩) (fun H locs hP hD hS => ?_)
    refine lv_if_eq (tgt := 44) hx hb dX3_setGains_31 (by decide) (fun _ => ?_) (fun c9 => absurd (by decide +kernel) c9)
    subst hQ9
    subst hA9
    exact kRet_v hx hb hr hlocks hP hS dX3_setGains_44
  · refine lv_aload_n hx hb dX3_setGains_0 rfl (lv_at hl 0 rfl) ?_
    refine lv_iload_n hx hb dX3_setGains_1 rfl (lv_at hl 1 rfl) ?_
    refine lv_iconst (v := nI 0) hx hb dX3_setGains_2 (by decide +kernel) ?_
    refine lv_sipush (v := nI 200) hx hb dX3_setGains_3 (by decide +kernel) ?_
    refine kCall_i (W0 := []) (W1 := []) hP hD hS hA [] rfl rfl (va_runS (As := [.int v, .int (nI 0), .int (nI 200)]) (rest := [.ref (y 0)]) ⟨hx, hb, hml, hown, hts⟩ (c_X3_isIn_bad l D cI cZ cO cJ v (nI 0) (nI 200) H.size g0) (va_cwS (rm := rmX3_isIn) 3 hts gX3_setGains_X3_isIn rfl rfl rfl (by decide +kernel) ⟨Nat.le_of_ble_eq_true rfl, Nat.le_of_ble_eq_true rfl⟩) (kPreS hK hN hP hD [] rfl rfl) rfl rfl hl.1 rfl (lv_room (Nat.le_of_ble_eq_true rfl)) dX3_setGains_6 ⟨Nat.zero_le _, Nat.zero_le _⟩) (fun H locs hP hD hS => ?_)
    have hP : va_P D vwCl (wM cI cZ y Lo Se Ef gp gi am li dl ck T Su Dm F Sp C Ho th) H := hP
    have hD : va_D A (wM cI cZ y Lo Se Ef gp gi am li dl ck T Su Dm F Sp C Ho th) := hD
    refine lv_if_eq (tgt := 27) hx hb dX3_setGains_9 (by decide) (fun _ => ?_) (fun c9 => absurd (by decide +kernel) c9)
    refine lv_iconst (v := nI 1) hx hb dX3_setGains_27 (by decide +kernel) ?_
    refine kCallW_i (W1 := wM cI cZ y Lo Se Ef gp gi am li dl ck T Su Dm F Sp C Ho (nI 1)) hD hS hA rfl (va_runV (As := [.int (nI 1)]) (rest := []) ⟨hx, hb, hml, hown, hts⟩ (c_X3_goes_1 l D cI cZ cO cJ y Lo Se Ef gp gi am li dl ck T Su Dm F Sp C Ho th (nI 1) H.size (by decide +kernel)) (cwV (rm := rmX3_goes) 1 hts gX3_setGains_X3_goes rfl rfl rfl (by decide +kernel) ⟨Nat.le_of_ble_eq_true rfl, Nat.le_of_ble_eq_true rfl⟩) (kPreVW hK hN hP hD (va_recv hK hP (ci := 3) (q0 := 0) rfl rfl)) rfl rfl hl.1 rfl (lv_room (Nat.le_of_ble_eq_true rfl)) dX3_setGains_28 ⟨Nat.zero_le _, Nat.zero_le _⟩) (fun H locs hP hD hS => ?_)
    refine lv_if_eq (tgt := 44) hx hb dX3_setGains_31 (by decide) (fun _ => ?_) (fun c9 => absurd (by decide +kernel) c9)
    subst hQ9
    subst hA9
    exact kRet_v hx hb hr hlocks hP hS dX3_setGains_44

abbrev rmX3_setHall : Room := { frames := 1, cells := 0, slots := 0, locals := 22 }
set_option maxHeartbeats 4000000 in
set_option maxRecDepth 100000 in
/-- setHall_ok -/
theorem c_X3_setHall_ok (l : Launch) (D : va_G) (cI cZ cO cJ : ClassId) (y : Nat → Nat) (Lo Se Ef : Nat → Int32) (gp gi am li : Int32) (dl : Nat) (ck : Nat → Nat) (T Su Dm F Sp C Ho : Nat → Int32) (th : Int32) (v w : Int32) (sz : Nat) (h : inR v (nI 1000) (nI 5000)) (h2 : inR w (nI 1000) (nI 5000)) : kMv l yX3_setHall wsX3_setHall rmX3_setHall D (kT cI cZ cO cJ) [.ref (y 0), .int v, .int w] (wM cI cZ y Lo Se Ef gp gi am li dl ck T Su Dm F Sp C Ho th) (wM cI cZ y Lo Se Ef gp gi v w dl ck T Su Dm F Sp C Ho (nI 0)) sz := by
  refine kEnter (cc := cX3_setHall) (maxL := 3) (ret := none) (by decide +kernel) rfl (Nat.le_of_ble_eq_true rfl) ?_
  intro p e s m below meth c args hx hb hr hml hts hown hlocks hin hK hN A hA9 Q hQ9 hP hD hsz hS hA ls hl
  have hl : lv_has ls 3 [(0, .ref (y 0)), (1, .int v), (2, .int w)] := hl
  have hi_X3 : ∀ w ∈ u_ws RX3 TX3 17, w ∈ wsX3_setHall := by decide +kernel
  obtain ⟨H, hH9⟩ : ∃ H, H = s.heap := ⟨_, rfl⟩
  rw [← hH9] at hP ⊢
  have hS : va_S A s.heap H [] := by rw [hH9]; exact va_S.rf
  refine lv_aload_n hx hb dX3_setHall_0 rfl (lv_at hl 0 rfl) ?_
  refine lv_iload_n hx hb dX3_setHall_1 rfl (lv_at hl 1 rfl) ?_
  refine lv_sipush (v := nI 1000) hx hb dX3_setHall_2 (by decide +kernel) ?_
  refine lv_sipush (v := nI 5000) hx hb dX3_setHall_5 (by decide +kernel) ?_
  refine kCall_i (W0 := []) (W1 := []) hP hD hS hA [] rfl rfl (va_runS (As := [.int v, .int (nI 1000), .int (nI 5000)]) (rest := [.ref (y 0)]) ⟨hx, hb, hml, hown, hts⟩ (c_X3_isIn_ok l D cI cZ cO cJ v (nI 1000) (nI 5000) H.size h) (va_cwS (rm := rmX3_isIn) 3 hts gX3_setHall_X3_isIn rfl rfl rfl (by decide +kernel) ⟨Nat.le_of_ble_eq_true rfl, Nat.le_of_ble_eq_true rfl⟩) (kPreS hK hN hP hD [] rfl rfl) rfl rfl hl.1 rfl (lv_room (Nat.le_of_ble_eq_true rfl)) dX3_setHall_8 ⟨Nat.zero_le _, Nat.zero_le _⟩) (fun H locs hP hD hS => ?_)
  have hP : va_P D vwCl (wM cI cZ y Lo Se Ef gp gi am li dl ck T Su Dm F Sp C Ho th) H := hP
  have hD : va_D A (wM cI cZ y Lo Se Ef gp gi am li dl ck T Su Dm F Sp C Ho th) := hD
  refine lv_if_eq (tgt := 31) hx hb dX3_setHall_11 (by decide) (fun c9 => absurd c9 (by decide +kernel)) (fun _ => ?_)
  refine lv_iload_n hx hb dX3_setHall_14 rfl (lv_at hl 2 rfl) ?_
  refine lv_sipush (v := nI 1000) hx hb dX3_setHall_15 (by decide +kernel) ?_
  refine lv_sipush (v := nI 5000) hx hb dX3_setHall_18 (by decide +kernel) ?_
  refine kCall_i (W0 := []) (W1 := []) hP hD hS hA [] rfl rfl (va_runS (As := [.int w, .int (nI 1000), .int (nI 5000)]) (rest := [.ref (y 0)]) ⟨hx, hb, hml, hown, hts⟩ (c_X3_isIn_ok l D cI cZ cO cJ w (nI 1000) (nI 5000) H.size h2) (va_cwS (rm := rmX3_isIn) 3 hts gX3_setHall_X3_isIn rfl rfl rfl (by decide +kernel) ⟨Nat.le_of_ble_eq_true rfl, Nat.le_of_ble_eq_true rfl⟩) (kPreS hK hN hP hD [] rfl rfl) rfl rfl hl.1 rfl (lv_room (Nat.le_of_ble_eq_true rfl)) dX3_setHall_21 ⟨Nat.zero_le _, Nat.zero_le _⟩) (fun H locs hP hD hS => ?_)
  have hP : va_P D vwCl (wM cI cZ y Lo Se Ef gp gi am li dl ck T Su Dm F Sp C Ho th) H := hP
  have hD : va_D A (wM cI cZ y Lo Se Ef gp gi am li dl ck T Su Dm F Sp C Ho th) := hD
  refine lv_if_eq (tgt := 31) hx hb dX3_setHall_24 (by decide) (fun c9 => absurd c9 (by decide +kernel)) (fun _ => ?_)
  refine lv_iconst (v := nI 0) hx hb dX3_setHall_27 (by decide +kernel) ?_
  refine lv_goto (tgt := 32) hx hb dX3_setHall_28 (by decide) ?_
  refine kCallW_i (W1 := wM cI cZ y Lo Se Ef gp gi am li dl ck T Su Dm F Sp C Ho (nI 0)) hD hS hA rfl (va_runV (As := [.int (nI 0)]) (rest := []) ⟨hx, hb, hml, hown, hts⟩ (c_X3_goes_0 l D cI cZ cO cJ y Lo Se Ef gp gi am li dl ck T Su Dm F Sp C Ho th (nI 0) H.size (by decide +kernel)) (cwV (rm := rmX3_goes) 1 hts gX3_setHall_X3_goes rfl rfl rfl (by decide +kernel) ⟨Nat.le_of_ble_eq_true rfl, Nat.le_of_ble_eq_true rfl⟩) (kPreVW hK hN hP hD (va_recv hK hP (ci := 3) (q0 := 0) rfl rfl)) rfl rfl hl.1 rfl (lv_room (Nat.le_of_ble_eq_true rfl)) dX3_setHall_32 ⟨Nat.zero_le _, Nat.zero_le _⟩) (fun H locs hP hD hS => ?_)
  refine lv_if_eq (tgt := 48) hx hb dX3_setHall_35 (by decide) (fun c9 => absurd c9 (by decide +kernel)) (fun _ => ?_)
  refine lv_aload_n hx hb dX3_setHall_38 rfl (lv_at hl 0 rfl) ?_
  refine lv_iload_n hx hb dX3_setHall_39 rfl (lv_at hl 1 rfl) ?_
  refine va_put (D := D) (ci := 3) (v := .int v) (ty := tyX3 5) (C := RX3) (T := TX3) (N := 17) hx hb hts hi_X3 tyX3 tyX3_ok nmX3 hown hK hP hD hS 0 rfl rfl 5 (by decide) (hts (.fieldLink RX3 26 "ColdaisleModel" "ambient" "I") (by decide +kernel)) (fun _ h9 => h9) rfl (by decide +kernel) rfl rfl (Nat.le_of_ble_eq_true rfl) dX3_setHall_40 (fun H locs hP hD hS => ?_)
  have hP : va_P D vwCl (wM cI cZ y Lo Se Ef gp gi v li dl ck T Su Dm F Sp C Ho (nI 0)) H := hP
  have hD : va_D A (wM cI cZ y Lo Se Ef gp gi v li dl ck T Su Dm F Sp C Ho (nI 0)) := hD
  refine lv_aload_n hx hb dX3_setHall_43 rfl (lv_at hl 0 rfl) ?_
  refine lv_iload_n hx hb dX3_setHall_44 rfl (lv_at hl 2 rfl) ?_
  refine va_put (D := D) (ci := 3) (v := .int w) (ty := tyX3 6) (C := RX3) (T := TX3) (N := 17) hx hb hts hi_X3 tyX3 tyX3_ok nmX3 hown hK hP hD hS 0 rfl rfl 6 (by decide) (hts (.fieldLink RX3 29 "ColdaisleModel" "limit" "I") (by decide +kernel)) (fun _ h9 => h9) rfl (by decide +kernel) rfl rfl (Nat.le_of_ble_eq_true rfl) dX3_setHall_45 (fun H locs hP hD hS => ?_)
  have hP : va_P D vwCl (wM cI cZ y Lo Se Ef gp gi v w dl ck T Su Dm F Sp C Ho (nI 0)) H := hP
  have hD : va_D A (wM cI cZ y Lo Se Ef gp gi v w dl ck T Su Dm F Sp C Ho (nI 0)) := hD
  subst hQ9
  subst hA9
  exact kRet_v hx hb hr hlocks hP hS dX3_setHall_48

set_option maxHeartbeats 4000000 in
set_option maxRecDepth 100000 in
/-- setHall_bad -/
theorem c_X3_setHall_bad (l : Launch) (D : va_G) (cI cZ cO cJ : ClassId) (y : Nat → Nat) (Lo Se Ef : Nat → Int32) (gp gi am li : Int32) (dl : Nat) (ck : Nat → Nat) (T Su Dm F Sp C Ho : Nat → Int32) (th : Int32) (v w : Int32) (sz : Nat) (h : ¬ (inR v (nI 1000) (nI 5000) ∧ inR w (nI 1000) (nI 5000))) : kMv l yX3_setHall wsX3_setHall rmX3_setHall D (kT cI cZ cO cJ) [.ref (y 0), .int v, .int w] (wM cI cZ y Lo Se Ef gp gi am li dl ck T Su Dm F Sp C Ho th) (wM cI cZ y Lo Se Ef gp gi am li dl ck T Su Dm F Sp C Ho (nI 1)) sz := by
  refine kEnter (cc := cX3_setHall) (maxL := 3) (ret := none) (by decide +kernel) rfl (Nat.le_of_ble_eq_true rfl) ?_
  intro p e s m below meth c args hx hb hr hml hts hown hlocks hin hK hN A hA9 Q hQ9 hP hD hsz hS hA ls hl
  have hl : lv_has ls 3 [(0, .ref (y 0)), (1, .int v), (2, .int w)] := hl
  have hi_X3 : ∀ w ∈ u_ws RX3 TX3 17, w ∈ wsX3_setHall := by decide +kernel
  obtain ⟨H, hH9⟩ : ∃ H, H = s.heap := ⟨_, rfl⟩
  rw [← hH9] at hP ⊢
  have hS : va_S A s.heap H [] := by rw [hH9]; exact va_S.rf
  by_cases g0 : inR v (nI 1000) (nI 5000)
  · have g1 : ¬ inR w (nI 1000) (nI 5000) := fun q => h ⟨g0, q⟩
    refine lv_aload_n hx hb dX3_setHall_0 rfl (lv_at hl 0 rfl) ?_
    refine lv_iload_n hx hb dX3_setHall_1 rfl (lv_at hl 1 rfl) ?_
    refine lv_sipush (v := nI 1000) hx hb dX3_setHall_2 (by decide +kernel) ?_
    refine lv_sipush (v := nI 5000) hx hb dX3_setHall_5 (by decide +kernel) ?_
    refine kCall_i (W0 := []) (W1 := []) hP hD hS hA [] rfl rfl (va_runS (As := [.int v, .int (nI 1000), .int (nI 5000)]) (rest := [.ref (y 0)]) ⟨hx, hb, hml, hown, hts⟩ (c_X3_isIn_ok l D cI cZ cO cJ v (nI 1000) (nI 5000) H.size g0) (va_cwS (rm := rmX3_isIn) 3 hts gX3_setHall_X3_isIn rfl rfl rfl (by decide +kernel) ⟨Nat.le_of_ble_eq_true rfl, Nat.le_of_ble_eq_true rfl⟩) (kPreS hK hN hP hD [] rfl rfl) rfl rfl hl.1 rfl (lv_room (Nat.le_of_ble_eq_true rfl)) dX3_setHall_8 ⟨Nat.zero_le _, Nat.zero_le _⟩) (fun H locs hP hD hS => ?_)
    have hP : va_P D vwCl (wM cI cZ y Lo Se Ef gp gi am li dl ck T Su Dm F Sp C Ho th) H := hP
    have hD : va_D A (wM cI cZ y Lo Se Ef gp gi am li dl ck T Su Dm F Sp C Ho th) := hD
    refine lv_if_eq (tgt := 31) hx hb dX3_setHall_11 (by decide) (fun c9 => absurd c9 (by decide +kernel)) (fun _ => ?_)
    refine lv_iload_n hx hb dX3_setHall_14 rfl (lv_at hl 2 rfl) ?_
    refine lv_sipush (v := nI 1000) hx hb dX3_setHall_15 (by decide +kernel) ?_
    refine lv_sipush (v := nI 5000) hx hb dX3_setHall_18 (by decide +kernel) ?_
    refine kCall_i (W0 := []) (W1 := []) hP hD hS hA [] rfl rfl (va_runS (As := [.int w, .int (nI 1000), .int (nI 5000)]) (rest := [.ref (y 0)]) ⟨hx, hb, hml, hown, hts⟩ (c_X3_isIn_bad l D cI cZ cO cJ w (nI 1000) (nI 5000) H.size g1) (va_cwS (rm := rmX3_isIn) 3 hts gX3_setHall_X3_isIn rfl rfl rfl (by decide +kernel) ⟨Nat.le_of_ble_eq_true rfl, Nat.le_of_ble_eq_true rfl⟩) (kPreS hK hN hP hD [] rfl rfl) rfl rfl hl.1 rfl (lv_room (Nat.le_of_ble_eq_true rfl)) dX3_setHall_21 ⟨Nat.zero_le _, Nat.zero_le _⟩) (fun H locs hP hD hS => ?_)
    have hP : va_P D vwCl (wM cI cZ y Lo Se Ef gp gi am li dl ck T Su Dm F Sp C Ho th) H := hP
    have hD : va_D A (wM cI cZ y Lo Se Ef gp gi am li dl ck T Su Dm F Sp C Ho th) := hD
    refine lv_if_eq (tgt := 31) hx hb dX3_setHall_24 (by decide) (fun _ => ?_) (fun c9 => absurd (by decide +kernel) c9)
    refine lv_iconst (v := nI 1) hx hb dX3_setHall_31 (by decide +kernel) ?_
    refine kCallW_i (W1 := wM cI cZ y Lo Se Ef gp gi am li dl ck T Su Dm F Sp C Ho (nI 1)) hD hS hA rfl (va_runV (As := [.int (nI 1)]) (rest := []) ⟨hx, hb, hml, hown, hts⟩ (c_X3_goes_1 l D cI cZ cO cJ y Lo Se Ef gp gi am li dl ck T Su Dm F Sp C Ho th (nI 1) H.size (by decide +kernel)) (cwV (rm := rmX3_goes) 1 hts gX3_setHall_X3_goes rfl rfl rfl (by decide +kernel) ⟨Nat.le_of_ble_eq_true rfl, Nat.le_of_ble_eq_true rfl⟩) (kPreVW hK hN hP hD (va_recv hK hP (ci := 3) (q0 := 0) rfl rfl)) rfl rfl hl.1 rfl (lv_room (Nat.le_of_ble_eq_true rfl)) dX3_setHall_32 ⟨Nat.zero_le _, Nat.zero_le _⟩) (fun H locs hP hD hS => ?_)
    refine lv_if_eq (tgt := 48) hx hb dX3_setHall_35 (by decide) (fun _ => ?_) (fun c9 => absurd (by decide +kernel) c9)
    subst hQ9
    subst hA9
    exact kRet_v hx hb hr hlocks hP hS dX3_setHall_48
  · refine lv_aload_n hx hb dX3_setHall_0 rfl (lv_at hl 0 rfl) ?_
    refine lv_iload_n hx hb dX3_setHall_1 rfl (lv_at hl 1 rfl) ?_
    refine lv_sipush (v := nI 1000) hx hb dX3_setHall_2 (by decide +kernel) ?_
    refine lv_sipush (v := nI 5000) hx hb dX3_setHall_5 (by decide +kernel) ?_
    refine kCall_i (W0 := []) (W1 := []) hP hD hS hA [] rfl rfl (va_runS (As := [.int v, .int (nI 1000), .int (nI 5000)]) (rest := [.ref (y 0)]) ⟨hx, hb, hml, hown, hts⟩ (c_X3_isIn_bad l D cI cZ cO cJ v (nI 1000) (nI 5000) H.size g0) (va_cwS (rm := rmX3_isIn) 3 hts gX3_setHall_X3_isIn rfl rfl rfl (by decide +kernel) ⟨Nat.le_of_ble_eq_true rfl, Nat.le_of_ble_eq_true rfl⟩) (kPreS hK hN hP hD [] rfl rfl) rfl rfl hl.1 rfl (lv_room (Nat.le_of_ble_eq_true rfl)) dX3_setHall_8 ⟨Nat.zero_le _, Nat.zero_le _⟩) (fun H locs hP hD hS => ?_)
    have hP : va_P D vwCl (wM cI cZ y Lo Se Ef gp gi am li dl ck T Su Dm F Sp C Ho th) H := hP
    have hD : va_D A (wM cI cZ y Lo Se Ef gp gi am li dl ck T Su Dm F Sp C Ho th) := hD
    refine lv_if_eq (tgt := 31) hx hb dX3_setHall_11 (by decide) (fun _ => ?_) (fun c9 => absurd (by decide +kernel) c9)
    refine lv_iconst (v := nI 1) hx hb dX3_setHall_31 (by decide +kernel) ?_
    refine kCallW_i (W1 := wM cI cZ y Lo Se Ef gp gi am li dl ck T Su Dm F Sp C Ho (nI 1)) hD hS hA rfl (va_runV (As := [.int (nI 1)]) (rest := []) ⟨hx, hb, hml, hown, hts⟩ (c_X3_goes_1 l D cI cZ cO cJ y Lo Se Ef gp gi am li dl ck T Su Dm F Sp C Ho th (nI 1) H.size (by decide +kernel)) (cwV (rm := rmX3_goes) 1 hts gX3_setHall_X3_goes rfl rfl rfl (by decide +kernel) ⟨Nat.le_of_ble_eq_true rfl, Nat.le_of_ble_eq_true rfl⟩) (kPreVW hK hN hP hD (va_recv hK hP (ci := 3) (q0 := 0) rfl rfl)) rfl rfl hl.1 rfl (lv_room (Nat.le_of_ble_eq_true rfl)) dX3_setHall_32 ⟨Nat.zero_le _, Nat.zero_le _⟩) (fun H locs hP hD hS => ?_)
    refine lv_if_eq (tgt := 48) hx hb dX3_setHall_35 (by decide) (fun _ => ?_) (fun c9 => absurd (by decide +kernel) c9)
    subst hQ9
    subst hA9
    exact kRet_v hx hb hr hlocks hP hS dX3_setHall_48

abbrev rmX3_setDelay : Room := { frames := 1, cells := 0, slots := 0, locals := 22 }
set_option maxHeartbeats 4000000 in
set_option maxRecDepth 100000 in
/-- setDelay_ok -/
theorem c_X3_setDelay_ok (l : Launch) (D : va_G) (cI cZ cO cJ : ClassId) (y : Nat → Nat) (Lo Se Ef : Nat → Int32) (gp gi am li : Int32) (dl : Nat) (ck : Nat → Nat) (T Su Dm F Sp C Ho : Nat → Int32) (th : Int32) (d : Nat) (sz : Nat) (hd : d < 9) : kMi l yX3_setDelay wsX3_setDelay rmX3_setDelay D (kT cI cZ cO cJ) [.ref (y 0), .int (nI d)] (wM cI cZ y Lo Se Ef gp gi am li dl ck T Su Dm F Sp C Ho th) (wM cI cZ y Lo Se Ef gp gi am li d ck T Su Dm F Sp C Ho (nI 0)) sz (nI dl) := by
  refine kEnter (cc := cX3_setDelay) (maxL := 3) (ret := some .int) (by decide +kernel) rfl (Nat.le_of_ble_eq_true rfl) ?_
  intro p e s m below meth c args hx hb hr hml hts hown hlocks hin hK hN A hA9 Q hQ9 hP hD hsz hS hA ls hl
  have hl : lv_has ls 3 [(0, .ref (y 0)), (1, .int (nI d))] := hl
  have hi_X3 : ∀ w ∈ u_ws RX3 TX3 17, w ∈ wsX3_setDelay := by decide +kernel
  obtain ⟨H, hH9⟩ : ∃ H, H = s.heap := ⟨_, rfl⟩
  rw [← hH9] at hP ⊢
  have hS : va_S A s.heap H [] := by rw [hH9]; exact va_S.rf
  refine lv_aload_n hx hb dX3_setDelay_0 rfl (lv_at hl 0 rfl) ?_
  refine lv_iload_n hx hb dX3_setDelay_1 rfl (lv_at hl 1 rfl) ?_
  refine lv_iconst (v := nI 0) hx hb dX3_setDelay_2 (by decide +kernel) ?_
  refine lv_bipush (v := nI 8) hx hb dX3_setDelay_3 (by decide +kernel) ?_
  refine kCall_i (W0 := []) (W1 := []) hP hD hS hA [] rfl rfl (va_runS (As := [.int (nI d), .int (nI 0), .int (nI 8)]) (rest := [.ref (y 0)]) ⟨hx, hb, hml, hown, hts⟩ (c_X3_isIn_ok l D cI cZ cO cJ (nI d) (nI 0) (nI 8) H.size (inR_nI (by omega) (by omega) (by decide))) (va_cwS (rm := rmX3_isIn) 3 hts gX3_setDelay_X3_isIn rfl rfl rfl (by decide +kernel) ⟨Nat.le_of_ble_eq_true rfl, Nat.le_of_ble_eq_true rfl⟩) (kPreS hK hN hP hD [] rfl rfl) rfl rfl hl.1 rfl (lv_room (Nat.le_of_ble_eq_true rfl)) dX3_setDelay_5 ⟨Nat.zero_le _, Nat.zero_le _⟩) (fun H locs hP hD hS => ?_)
  have hP : va_P D vwCl (wM cI cZ y Lo Se Ef gp gi am li dl ck T Su Dm F Sp C Ho th) H := hP
  have hD : va_D A (wM cI cZ y Lo Se Ef gp gi am li dl ck T Su Dm F Sp C Ho th) := hD
  refine lv_if_eq (tgt := 15) hx hb dX3_setDelay_8 (by decide) (fun c9 => absurd c9 (by decide +kernel)) (fun _ => ?_)
  refine lv_iconst (v := nI 0) hx hb dX3_setDelay_11 (by decide +kernel) ?_
  refine lv_goto (tgt := 16) hx hb dX3_setDelay_12 (by decide) ?_
  refine kCallW_i (W1 := wM cI cZ y Lo Se Ef gp gi am li dl ck T Su Dm F Sp C Ho (nI 0)) hD hS hA rfl (va_runV (As := [.int (nI 0)]) (rest := []) ⟨hx, hb, hml, hown, hts⟩ (c_X3_goes_0 l D cI cZ cO cJ y Lo Se Ef gp gi am li dl ck T Su Dm F Sp C Ho th (nI 0) H.size (by decide +kernel)) (cwV (rm := rmX3_goes) 1 hts gX3_setDelay_X3_goes rfl rfl rfl (by decide +kernel) ⟨Nat.le_of_ble_eq_true rfl, Nat.le_of_ble_eq_true rfl⟩) (kPreVW hK hN hP hD (va_recv hK hP (ci := 3) (q0 := 0) rfl rfl)) rfl rfl hl.1 rfl (lv_room (Nat.le_of_ble_eq_true rfl)) dX3_setDelay_16 ⟨Nat.zero_le _, Nat.zero_le _⟩) (fun H locs hP hD hS => ?_)
  refine lv_if_ne (tgt := 24) hx hb dX3_setDelay_19 (by decide) (fun _ => ?_) (fun c9 => absurd c9 (by decide +kernel))
  refine lv_aload_n hx hb dX3_setDelay_24 rfl (lv_at hl 0 rfl) ?_
  refine va_get (D := D) (ci := 3) (v := .int (nI dl)) (C := RX3) (T := TX3) (N := 17) hx hb hts hi_X3 hown hK hP 0 rfl rfl 7 (by decide) (hts (.fieldLink RX3 32 "ColdaisleModel" "delay" "I") (by decide +kernel)) (fun _ h9 => h9) rfl dX3_setDelay_25 ?_
  refine lv_istore_n (lv' := [(2, .int (nI dl)), (0, .ref (y 0)), (1, .int (nI d))]) hx hb dX3_setDelay_28 rfl hl (by decide) rfl (fun ls hl => ?_)
  refine lv_aload_n hx hb dX3_setDelay_29 rfl (lv_at hl 1 rfl) ?_
  refine lv_iload_n hx hb dX3_setDelay_30 rfl (lv_at hl 2 rfl) ?_
  refine va_put (D := D) (ci := 3) (v := .int (nI d)) (ty := tyX3 7) (C := RX3) (T := TX3) (N := 17) hx hb hts hi_X3 tyX3 tyX3_ok nmX3 hown hK hP hD hS 0 rfl rfl 7 (by decide) (hts (.fieldLink RX3 32 "ColdaisleModel" "delay" "I") (by decide +kernel)) (fun _ h9 => h9) rfl (by decide +kernel) rfl rfl (Nat.le_of_ble_eq_true rfl) dX3_setDelay_31 (fun H locs hP hD hS => ?_)
  have hP : va_P D vwCl (wM cI cZ y Lo Se Ef gp gi am li d ck T Su Dm F Sp C Ho (nI 0)) H := hP
  have hD : va_D A (wM cI cZ y Lo Se Ef gp gi am li d ck T Su Dm F Sp C Ho (nI 0)) := hD
  refine lv_iload_n hx hb dX3_setDelay_34 rfl (lv_at hl 0 rfl) ?_
  subst hQ9
  subst hA9
  exact kRet_i hx hb hr hlocks hP hS dX3_setDelay_35 rfl

set_option maxHeartbeats 4000000 in
set_option maxRecDepth 100000 in
/-- setDelay_bad -/
theorem c_X3_setDelay_bad (l : Launch) (D : va_G) (cI cZ cO cJ : ClassId) (y : Nat → Nat) (Lo Se Ef : Nat → Int32) (gp gi am li : Int32) (dl : Nat) (ck : Nat → Nat) (T Su Dm F Sp C Ho : Nat → Int32) (th : Int32) (v : Int32) (sz : Nat) (h : ¬ inR v (nI 0) (nI 8)) : kMi l yX3_setDelay wsX3_setDelay rmX3_setDelay D (kT cI cZ cO cJ) [.ref (y 0), .int v] (wM cI cZ y Lo Se Ef gp gi am li dl ck T Su Dm F Sp C Ho th) (wM cI cZ y Lo Se Ef gp gi am li dl ck T Su Dm F Sp C Ho (nI 1)) sz (nI 0) := by
  refine kEnter (cc := cX3_setDelay) (maxL := 3) (ret := some .int) (by decide +kernel) rfl (Nat.le_of_ble_eq_true rfl) ?_
  intro p e s m below meth c args hx hb hr hml hts hown hlocks hin hK hN A hA9 Q hQ9 hP hD hsz hS hA ls hl
  have hl : lv_has ls 3 [(0, .ref (y 0)), (1, .int v)] := hl
  have hi_X3 : ∀ w ∈ u_ws RX3 TX3 17, w ∈ wsX3_setDelay := by decide +kernel
  obtain ⟨H, hH9⟩ : ∃ H, H = s.heap := ⟨_, rfl⟩
  rw [← hH9] at hP ⊢
  have hS : va_S A s.heap H [] := by rw [hH9]; exact va_S.rf
  refine lv_aload_n hx hb dX3_setDelay_0 rfl (lv_at hl 0 rfl) ?_
  refine lv_iload_n hx hb dX3_setDelay_1 rfl (lv_at hl 1 rfl) ?_
  refine lv_iconst (v := nI 0) hx hb dX3_setDelay_2 (by decide +kernel) ?_
  refine lv_bipush (v := nI 8) hx hb dX3_setDelay_3 (by decide +kernel) ?_
  refine kCall_i (W0 := []) (W1 := []) hP hD hS hA [] rfl rfl (va_runS (As := [.int v, .int (nI 0), .int (nI 8)]) (rest := [.ref (y 0)]) ⟨hx, hb, hml, hown, hts⟩ (c_X3_isIn_bad l D cI cZ cO cJ v (nI 0) (nI 8) H.size h) (va_cwS (rm := rmX3_isIn) 3 hts gX3_setDelay_X3_isIn rfl rfl rfl (by decide +kernel) ⟨Nat.le_of_ble_eq_true rfl, Nat.le_of_ble_eq_true rfl⟩) (kPreS hK hN hP hD [] rfl rfl) rfl rfl hl.1 rfl (lv_room (Nat.le_of_ble_eq_true rfl)) dX3_setDelay_5 ⟨Nat.zero_le _, Nat.zero_le _⟩) (fun H locs hP hD hS => ?_)
  have hP : va_P D vwCl (wM cI cZ y Lo Se Ef gp gi am li dl ck T Su Dm F Sp C Ho th) H := hP
  have hD : va_D A (wM cI cZ y Lo Se Ef gp gi am li dl ck T Su Dm F Sp C Ho th) := hD
  refine lv_if_eq (tgt := 15) hx hb dX3_setDelay_8 (by decide) (fun _ => ?_) (fun c9 => absurd (by decide +kernel) c9)
  refine lv_iconst (v := nI 1) hx hb dX3_setDelay_15 (by decide +kernel) ?_
  refine kCallW_i (W1 := wM cI cZ y Lo Se Ef gp gi am li dl ck T Su Dm F Sp C Ho (nI 1)) hD hS hA rfl (va_runV (As := [.int (nI 1)]) (rest := []) ⟨hx, hb, hml, hown, hts⟩ (c_X3_goes_1 l D cI cZ cO cJ y Lo Se Ef gp gi am li dl ck T Su Dm F Sp C Ho th (nI 1) H.size (by decide +kernel)) (cwV (rm := rmX3_goes) 1 hts gX3_setDelay_X3_goes rfl rfl rfl (by decide +kernel) ⟨Nat.le_of_ble_eq_true rfl, Nat.le_of_ble_eq_true rfl⟩) (kPreVW hK hN hP hD (va_recv hK hP (ci := 3) (q0 := 0) rfl rfl)) rfl rfl hl.1 rfl (lv_room (Nat.le_of_ble_eq_true rfl)) dX3_setDelay_16 ⟨Nat.zero_le _, Nat.zero_le _⟩) (fun H locs hP hD hS => ?_)
  refine lv_if_ne (tgt := 24) hx hb dX3_setDelay_19 (by decide) (fun c9 => absurd (by decide +kernel) c9) (fun _ => ?_)
  refine lv_iconst (v := nI 0) hx hb dX3_setDelay_22 (by decide +kernel) ?_
  subst hQ9
  subst hA9
  exact kRet_i hx hb hr hlocks hP hS dX3_setDelay_23 rfl

abbrev rmX3_running : Room := { frames := 0, cells := 0, slots := 0, locals := 0 }
set_option maxHeartbeats 4000000 in
set_option maxRecDepth 100000 in
/-- running -/
theorem c_X3_running (l : Launch) (D : va_G) (cI cZ cO cJ : ClassId) (y : Nat → Nat) (Lo Se Ef : Nat → Int32) (gp gi am li : Int32) (dl : Nat) (ck : Nat → Nat) (T Su Dm F Sp C Ho : Nat → Int32) (th : Int32) (sz : Nat) : kMi l yX3_running wsX3_running rmX3_running D (kT cI cZ cO cJ) [.ref (y 0)] (wM cI cZ y Lo Se Ef gp gi am li dl ck T Su Dm F Sp C Ho th) (wM cI cZ y Lo Se Ef gp gi am li dl ck T Su Dm F Sp C Ho th) sz (mCnt F 8) := by
  refine kEnter (cc := cX3_running) (maxL := 3) (ret := some .int) (by decide +kernel) rfl (Nat.le_of_ble_eq_true rfl) ?_
  intro p e s m below meth c args hx hb hr hml hts hown hlocks hin hK hN A hA9 Q hQ9 hP hD hsz hS hA ls hl
  have hl : lv_has ls 3 [(0, .ref (y 0))] := hl
  have hi_X3 : ∀ w ∈ u_ws RX3 TX3 17, w ∈ wsX3_running := by decide +kernel
  obtain ⟨H, hH9⟩ : ∃ H, H = s.heap := ⟨_, rfl⟩
  rw [← hH9] at hP ⊢
  have hS : va_S A s.heap H [] := by rw [hH9]; exact va_S.rf
  refine lv_iconst (v := nI 0) hx hb dX3_running_0 (by decide +kernel) ?_
  refine lv_istore_n (lv' := [(1, .int (nI 0)), (0, .ref (y 0))]) hx hb dX3_running_1 rfl hl (by decide) rfl (fun ls hl => ?_)
  refine lv_iconst (v := nI 0) hx hb dX3_running_2 (by decide +kernel) ?_
  refine lv_istore_n (lv' := [(2, .int (nI 0)), (1, .int (nI 0)), (0, .ref (y 0))]) hx hb dX3_running_3 rfl hl (by decide) rfl (fun ls hl => ?_)
  have lp : ∀ (n z : Nat), z + n = 8 → ∀ (H : Heap) (locs : List Loc), va_P D vwCl (wM cI cZ y Lo Se Ef gp gi am li dl ck T Su Dm F Sp C Ho th) H → va_D A (wM cI cZ y Lo Se Ef gp gi am li dl ck T Su Dm F Sp C Ho th) → va_S A s.heap H locs → ∀ ls : Array Slot, lv_has ls 3 [(0, .ref (y 0)), (1, .int (mCnt F z)), (2, .int (nI z))] → W p l e rmX3_running s m args below meth c H locs 0 0 Q (F0 m 4 ls []) := by
    intro n
    induction n with
    | zero =>
      intro z hz H locs hP hD hS ls hl
      have hz9 : z = 8 := by omega
      subst hz9
      refine lv_iload_n hx hb dX3_running_4 rfl (lv_at hl 2 rfl) ?_
      refine lv_bipush (v := nI 8) hx hb dX3_running_5 (by decide +kernel) ?_
      refine lv_icmp_ge (tgt := 33) hx hb dX3_running_7 (by decide) (fun _ => ?_) (fun c9 => absurd (by decide +kernel) c9)
      refine lv_iload_n hx hb dX3_running_33 rfl (lv_at hl 1 rfl) ?_
      subst hQ9
      subst hA9
      exact kRet_i hx hb hr hlocks hP hS dX3_running_34 rfl
    | succ n ih =>
      intro z hz H locs hP hD hS ls hl
      have hzb : z < 8 := by omega
      refine lv_iload_n hx hb dX3_running_4 rfl (lv_at hl 2 rfl) ?_
      refine lv_bipush (v := nI 8) hx hb dX3_running_5 (by decide +kernel) ?_
      refine lv_icmp_ge (tgt := 33) hx hb dX3_running_7 (by decide) (fun c9 => absurd c9 (nI_ge hzb (by decide))) (fun _ => ?_)
      refine lv_iload_n hx hb dX3_running_10 rfl (lv_at hl 1 rfl) ?_
      refine lv_aload_n hx hb dX3_running_11 rfl (lv_at hl 0 rfl) ?_
      refine va_get (D := D) (ci := 3) (v := .ref (y 8)) (C := RX3) (T := TX3) (N := 17) hx hb hts hi_X3 hown hK hP 0 rfl rfl 12 (by decide) (hts (.fieldLink RX3 47 "ColdaisleModel" "hasFailed" "[Z") (by decide +kernel)) (fun _ h9 => h9) rfl dX3_running_12 ?_
      refine lv_iload_n hx hb dX3_running_15 rfl (lv_at hl 2 rfl) ?_
      refine k_zald hx hb hK hP 8 1 rfl rfl (i := z) (by omega) (by decide) dX3_running_16 ?_
      refine lv_if_eq (tgt := 24) hx hb dX3_running_17 (by decide) (fun c1 => ?_) (fun c1 => ?_)
      · refine lv_iconst (v := nI 1) hx hb dX3_running_24 (by decide +kernel) ?_
        refine lv_iadd hx hb dX3_running_25 ?_
        refine lv_istore_n (lv' := [(1, .int ((mCnt F z) + (nI 1))), (0, .ref (y 0)), (2, .int (nI z))]) hx hb dX3_running_26 rfl hl (by decide) rfl (fun ls hl => ?_)
        refine lv_iinc (v := nI (z + 1)) (lv' := [(2, .int (nI (z + 1))), (1, .int ((mCnt F z) + (nI 1))), (0, .ref (y 0))]) hx hb dX3_running_27 hl (k := 2) rfl (k_inc _) (by decide) rfl (fun ls hl => ?_)
        refine lv_goto (tgt := 4) hx hb dX3_running_30 (by decide) ?_
        exact ih (z + 1) (by omega) H locs hP hD hS ls (by rw [mCnt_t F z c1]; exact (lv_sub hl [2, 1, 0] rfl))
      · refine lv_iconst (v := nI 0) hx hb dX3_running_20 (by decide +kernel) ?_
        refine lv_goto (tgt := 25) hx hb dX3_running_21 (by decide) ?_
        refine lv_iadd hx hb dX3_running_25 ?_
        refine k_as (add_nI0 _) ?_
        refine lv_istore_n (lv' := [(1, .int (mCnt F z)), (0, .ref (y 0)), (2, .int (nI z))]) hx hb dX3_running_26 rfl hl (by decide) rfl (fun ls hl => ?_)
        refine lv_iinc (v := nI (z + 1)) (lv' := [(2, .int (nI (z + 1))), (1, .int (mCnt F z)), (0, .ref (y 0))]) hx hb dX3_running_27 hl (k := 2) rfl (k_inc _) (by decide) rfl (fun ls hl => ?_)
        refine lv_goto (tgt := 4) hx hb dX3_running_30 (by decide) ?_
        exact ih (z + 1) (by omega) H locs hP hD hS ls (by rw [mCnt_f F z c1]; exact (lv_sub hl [2, 1, 0] rfl))
  exact lp 8 0 rfl H [] hP hD hS ls (lv_sub hl [2, 1, 0] rfl)

abbrev rmX3_fail : Room := { frames := 2, cells := 0, slots := 0, locals := 42 }
set_option maxHeartbeats 4000000 in
set_option maxRecDepth 100000 in
/-- fail_ok -/
theorem c_X3_fail_ok (l : Launch) (D : va_G) (cI cZ cO cJ : ClassId) (y : Nat → Nat) (Lo Se Ef : Nat → Int32) (gp gi am li : Int32) (dl : Nat) (ck : Nat → Nat) (T Su Dm F Sp C Ho : Nat → Int32) (th : Int32) (f : Nat) (sz : Nat) (hf : f < 8) (hF : F f = 0) : kMi l yX3_fail wsX3_fail rmX3_fail D (kT cI cZ cO cJ) [.ref (y 0), .int (nI f)] (wM cI cZ y Lo Se Ef gp gi am li dl ck T Su Dm F Sp C Ho th) (wM cI cZ y Lo Se Ef gp gi am li dl ck T Su Dm (upd F f (nI 1)) (upd Sp f (nI 0)) C Ho (nI 0)) sz (mCnt (upd F f (nI 1)) 8) := by
  refine kEnter (cc := cX3_fail) (maxL := 2) (ret := some .int) (by decide +kernel) rfl (Nat.le_of_ble_eq_true rfl) ?_
  intro p e s m below meth c args hx hb hr hml hts hown hlocks hin hK hN A hA9 Q hQ9 hP hD hsz hS hA ls hl
  have hl : lv_has ls 2 [(0, .ref (y 0)), (1, .int (nI f))] := hl
  have hi_X3 : ∀ w ∈ u_ws RX3 TX3 17, w ∈ wsX3_fail := by decide +kernel
  obtain ⟨H, hH9⟩ : ∃ H, H = s.heap := ⟨_, rfl⟩
  rw [← hH9] at hP ⊢
  have hS : va_S A s.heap H [] := by rw [hH9]; exact va_S.rf
  refine lv_aload_n hx hb dX3_fail_0 rfl (lv_at hl 0 rfl) ?_
  refine lv_iload_n hx hb dX3_fail_1 rfl (lv_at hl 1 rfl) ?_
  refine kCall_i (W0 := []) (W1 := []) hP hD hS hA [] rfl rfl (va_runS (As := [.int (nI f)]) (rest := [.ref (y 0)]) ⟨hx, hb, hml, hown, hts⟩ (c_X3_isFan_ok l D cI cZ cO cJ (nI f) H.size (inR_nI (by omega) (by omega) (by decide))) (va_cwS (rm := rmX3_isFan) 1 hts gX3_fail_X3_isFan rfl rfl rfl (by decide +kernel) ⟨Nat.le_of_ble_eq_true rfl, Nat.le_of_ble_eq_true rfl⟩) (kPreS hK hN hP hD [] rfl rfl) rfl rfl hl.1 rfl (lv_room (Nat.le_of_ble_eq_true rfl)) dX3_fail_2 ⟨Nat.zero_le _, Nat.zero_le _⟩) (fun H locs hP hD hS => ?_)
  have hP : va_P D vwCl (wM cI cZ y Lo Se Ef gp gi am li dl ck T Su Dm F Sp C Ho th) H := hP
  have hD : va_D A (wM cI cZ y Lo Se Ef gp gi am li dl ck T Su Dm F Sp C Ho th) := hD
  refine lv_if_ne (tgt := 12) hx hb dX3_fail_5 (by decide) (fun _ => ?_) (fun c9 => absurd c9 (by decide +kernel))
  refine lv_aload_n hx hb dX3_fail_12 rfl (lv_at hl 0 rfl) ?_
  refine va_get (D := D) (ci := 3) (v := .ref (y 8)) (C := RX3) (T := TX3) (N := 17) hx hb hts hi_X3 hown hK hP 0 rfl rfl 12 (by decide) (hts (.fieldLink RX3 47 "ColdaisleModel" "hasFailed" "[Z") (by decide +kernel)) (fun _ h9 => h9) rfl dX3_fail_13 ?_
  refine lv_iload_n hx hb dX3_fail_16 rfl (lv_at hl 1 rfl) ?_
  refine k_zald hx hb hK hP 8 1 rfl rfl (i := f) (by omega) (by decide) dX3_fail_17 ?_
  refine lv_if_eq (tgt := 25) hx hb dX3_fail_18 (by decide) (fun _ => ?_) (fun c9 => absurd hF c9)
  refine lv_iconst (v := nI 0) hx hb dX3_fail_25 (by decide +kernel) ?_
  refine kCallW_i (W1 := wM cI cZ y Lo Se Ef gp gi am li dl ck T Su Dm F Sp C Ho (nI 0)) hD hS hA rfl (va_runV (As := [.int (nI 0)]) (rest := []) ⟨hx, hb, hml, hown, hts⟩ (c_X3_goes_0 l D cI cZ cO cJ y Lo Se Ef gp gi am li dl ck T Su Dm F Sp C Ho th (nI 0) H.size (by decide +kernel)) (cwV (rm := rmX3_goes) 1 hts gX3_fail_X3_goes rfl rfl rfl (by decide +kernel) ⟨Nat.le_of_ble_eq_true rfl, Nat.le_of_ble_eq_true rfl⟩) (kPreVW hK hN hP hD (va_recv hK hP (ci := 3) (q0 := 0) rfl rfl)) rfl rfl hl.1 rfl (lv_room (Nat.le_of_ble_eq_true rfl)) dX3_fail_26 ⟨Nat.zero_le _, Nat.zero_le _⟩) (fun H locs hP hD hS => ?_)
  refine lv_if_ne (tgt := 34) hx hb dX3_fail_29 (by decide) (fun _ => ?_) (fun c9 => absurd c9 (by decide +kernel))
  refine lv_aload_n hx hb dX3_fail_34 rfl (lv_at hl 0 rfl) ?_
  refine va_get (D := D) (ci := 3) (v := .ref (y 8)) (C := RX3) (T := TX3) (N := 17) hx hb hts hi_X3 hown hK hP 0 rfl rfl 12 (by decide) (hts (.fieldLink RX3 47 "ColdaisleModel" "hasFailed" "[Z") (by decide +kernel)) (fun _ h9 => h9) rfl dX3_fail_35 ?_
  refine lv_iload_n hx hb dX3_fail_38 rfl (lv_at hl 1 rfl) ?_
  refine lv_iconst (v := nI 1) hx hb dX3_fail_39 (by decide +kernel) ?_
  refine k_zast hx hb hK hP hD hS 8 1 rfl rfl (i := f) (x := nI 1) (x' := nI 1) (by omega) (by decide) (by decide +kernel) dX3_fail_40 (fun H locs hP hD hS => ?_)
  have hP : va_P D vwCl (wM cI cZ y Lo Se Ef gp gi am li dl ck T Su Dm (upd F f (nI 1)) Sp C Ho (nI 0)) H := hP
  have hD : va_D A (wM cI cZ y Lo Se Ef gp gi am li dl ck T Su Dm (upd F f (nI 1)) Sp C Ho (nI 0)) := hD
  refine lv_aload_n hx hb dX3_fail_41 rfl (lv_at hl 0 rfl) ?_
  refine va_get (D := D) (ci := 3) (v := .ref (y 9)) (C := RX3) (T := TX3) (N := 17) hx hb hts hi_X3 hown hK hP 0 rfl rfl 13 (by decide) (hts (.fieldLink RX3 51 "ColdaisleModel" "speeds" "[I") (by decide +kernel)) (fun _ h9 => h9) rfl dX3_fail_42 ?_
  refine lv_iload_n hx hb dX3_fail_45 rfl (lv_at hl 1 rfl) ?_
  refine lv_iconst (v := nI 0) hx hb dX3_fail_46 (by decide +kernel) ?_
  refine k_iast hx hb hK hP hD hS 9 0 rfl rfl (i := f) (x := nI 0) (by omega) (by decide) dX3_fail_47 (fun H locs hP hD hS => ?_)
  have hP : va_P D vwCl (wM cI cZ y Lo Se Ef gp gi am li dl ck T Su Dm (upd F f (nI 1)) (upd Sp f (nI 0)) C Ho (nI 0)) H := hP
  have hD : va_D A (wM cI cZ y Lo Se Ef gp gi am li dl ck T Su Dm (upd F f (nI 1)) (upd Sp f (nI 0)) C Ho (nI 0)) := hD
  refine lv_aload_n hx hb dX3_fail_48 rfl (lv_at hl 0 rfl) ?_
  refine kCallW_i (W1 := wM cI cZ y Lo Se Ef gp gi am li dl ck T Su Dm (upd F f (nI 1)) (upd Sp f (nI 0)) C Ho (nI 0)) hD hS hA rfl (va_runV (As := []) (rest := []) ⟨hx, hb, hml, hown, hts⟩ (c_X3_running l D cI cZ cO cJ y Lo Se Ef gp gi am li dl ck T Su Dm (upd F f (nI 1)) (upd Sp f (nI 0)) C Ho (nI 0) H.size) (cwV (rm := rmX3_running) 0 hts gX3_fail_X3_running rfl rfl rfl (by decide +kernel) ⟨Nat.le_of_ble_eq_true rfl, Nat.le_of_ble_eq_true rfl⟩) (kPreVW hK hN hP hD (va_recv hK hP (ci := 3) (q0 := 0) rfl rfl)) rfl rfl hl.1 rfl (lv_room (Nat.le_of_ble_eq_true rfl)) dX3_fail_49 ⟨Nat.zero_le _, Nat.zero_le _⟩) (fun H locs hP hD hS => ?_)
  subst hQ9
  subst hA9
  exact kRet_i hx hb hr hlocks hP hS dX3_fail_52 rfl

set_option maxHeartbeats 4000000 in
set_option maxRecDepth 100000 in
/-- fail_two -/
theorem c_X3_fail_two (l : Launch) (D : va_G) (cI cZ cO cJ : ClassId) (y : Nat → Nat) (Lo Se Ef : Nat → Int32) (gp gi am li : Int32) (dl : Nat) (ck : Nat → Nat) (T Su Dm F Sp C Ho : Nat → Int32) (th : Int32) (f : Nat) (sz : Nat) (hf : f < 8) (hF : ¬ F f = 0) : kMi l yX3_fail wsX3_fail rmX3_fail D (kT cI cZ cO cJ) [.ref (y 0), .int (nI f)] (wM cI cZ y Lo Se Ef gp gi am li dl ck T Su Dm F Sp C Ho th) (wM cI cZ y Lo Se Ef gp gi am li dl ck T Su Dm F Sp C Ho (nI 2)) sz (nI 0) := by
  refine kEnter (cc := cX3_fail) (maxL := 2) (ret := some .int) (by decide +kernel) rfl (Nat.le_of_ble_eq_true rfl) ?_
  intro p e s m below meth c args hx hb hr hml hts hown hlocks hin hK hN A hA9 Q hQ9 hP hD hsz hS hA ls hl
  have hl : lv_has ls 2 [(0, .ref (y 0)), (1, .int (nI f))] := hl
  have hi_X3 : ∀ w ∈ u_ws RX3 TX3 17, w ∈ wsX3_fail := by decide +kernel
  obtain ⟨H, hH9⟩ : ∃ H, H = s.heap := ⟨_, rfl⟩
  rw [← hH9] at hP ⊢
  have hS : va_S A s.heap H [] := by rw [hH9]; exact va_S.rf
  refine lv_aload_n hx hb dX3_fail_0 rfl (lv_at hl 0 rfl) ?_
  refine lv_iload_n hx hb dX3_fail_1 rfl (lv_at hl 1 rfl) ?_
  refine kCall_i (W0 := []) (W1 := []) hP hD hS hA [] rfl rfl (va_runS (As := [.int (nI f)]) (rest := [.ref (y 0)]) ⟨hx, hb, hml, hown, hts⟩ (c_X3_isFan_ok l D cI cZ cO cJ (nI f) H.size (inR_nI (by omega) (by omega) (by decide))) (va_cwS (rm := rmX3_isFan) 1 hts gX3_fail_X3_isFan rfl rfl rfl (by decide +kernel) ⟨Nat.le_of_ble_eq_true rfl, Nat.le_of_ble_eq_true rfl⟩) (kPreS hK hN hP hD [] rfl rfl) rfl rfl hl.1 rfl (lv_room (Nat.le_of_ble_eq_true rfl)) dX3_fail_2 ⟨Nat.zero_le _, Nat.zero_le _⟩) (fun H locs hP hD hS => ?_)
  have hP : va_P D vwCl (wM cI cZ y Lo Se Ef gp gi am li dl ck T Su Dm F Sp C Ho th) H := hP
  have hD : va_D A (wM cI cZ y Lo Se Ef gp gi am li dl ck T Su Dm F Sp C Ho th) := hD
  refine lv_if_ne (tgt := 12) hx hb dX3_fail_5 (by decide) (fun _ => ?_) (fun c9 => absurd c9 (by decide +kernel))
  refine lv_aload_n hx hb dX3_fail_12 rfl (lv_at hl 0 rfl) ?_
  refine va_get (D := D) (ci := 3) (v := .ref (y 8)) (C := RX3) (T := TX3) (N := 17) hx hb hts hi_X3 hown hK hP 0 rfl rfl 12 (by decide) (hts (.fieldLink RX3 47 "ColdaisleModel" "hasFailed" "[Z") (by decide +kernel)) (fun _ h9 => h9) rfl dX3_fail_13 ?_
  refine lv_iload_n hx hb dX3_fail_16 rfl (lv_at hl 1 rfl) ?_
  refine k_zald hx hb hK hP 8 1 rfl rfl (i := f) (by omega) (by decide) dX3_fail_17 ?_
  refine lv_if_eq (tgt := 25) hx hb dX3_fail_18 (by decide) (fun c9 => absurd c9 hF) (fun _ => ?_)
  refine lv_iconst (v := nI 2) hx hb dX3_fail_21 (by decide +kernel) ?_
  refine lv_goto (tgt := 26) hx hb dX3_fail_22 (by decide) ?_
  refine kCallW_i (W1 := wM cI cZ y Lo Se Ef gp gi am li dl ck T Su Dm F Sp C Ho (nI 2)) hD hS hA rfl (va_runV (As := [.int (nI 2)]) (rest := []) ⟨hx, hb, hml, hown, hts⟩ (c_X3_goes_1 l D cI cZ cO cJ y Lo Se Ef gp gi am li dl ck T Su Dm F Sp C Ho th (nI 2) H.size (by decide +kernel)) (cwV (rm := rmX3_goes) 1 hts gX3_fail_X3_goes rfl rfl rfl (by decide +kernel) ⟨Nat.le_of_ble_eq_true rfl, Nat.le_of_ble_eq_true rfl⟩) (kPreVW hK hN hP hD (va_recv hK hP (ci := 3) (q0 := 0) rfl rfl)) rfl rfl hl.1 rfl (lv_room (Nat.le_of_ble_eq_true rfl)) dX3_fail_26 ⟨Nat.zero_le _, Nat.zero_le _⟩) (fun H locs hP hD hS => ?_)
  refine lv_if_ne (tgt := 34) hx hb dX3_fail_29 (by decide) (fun c9 => absurd (by decide +kernel) c9) (fun _ => ?_)
  refine lv_iconst (v := nI 0) hx hb dX3_fail_32 (by decide +kernel) ?_
  subst hQ9
  subst hA9
  exact kRet_i hx hb hr hlocks hP hS dX3_fail_33 rfl

set_option maxHeartbeats 4000000 in
set_option maxRecDepth 100000 in
/-- fail_bad -/
theorem c_X3_fail_bad (l : Launch) (D : va_G) (cI cZ cO cJ : ClassId) (y : Nat → Nat) (Lo Se Ef : Nat → Int32) (gp gi am li : Int32) (dl : Nat) (ck : Nat → Nat) (T Su Dm F Sp C Ho : Nat → Int32) (th : Int32) (v : Int32) (sz : Nat) (h : ¬ inR v (nI 0) (nI 7)) : kMi l yX3_fail wsX3_fail rmX3_fail D (kT cI cZ cO cJ) [.ref (y 0), .int v] (wM cI cZ y Lo Se Ef gp gi am li dl ck T Su Dm F Sp C Ho th) (wM cI cZ y Lo Se Ef gp gi am li dl ck T Su Dm F Sp C Ho (nI 1)) sz (nI 0) := by
  refine kEnter (cc := cX3_fail) (maxL := 2) (ret := some .int) (by decide +kernel) rfl (Nat.le_of_ble_eq_true rfl) ?_
  intro p e s m below meth c args hx hb hr hml hts hown hlocks hin hK hN A hA9 Q hQ9 hP hD hsz hS hA ls hl
  have hl : lv_has ls 2 [(0, .ref (y 0)), (1, .int v)] := hl
  have hi_X3 : ∀ w ∈ u_ws RX3 TX3 17, w ∈ wsX3_fail := by decide +kernel
  obtain ⟨H, hH9⟩ : ∃ H, H = s.heap := ⟨_, rfl⟩
  rw [← hH9] at hP ⊢
  have hS : va_S A s.heap H [] := by rw [hH9]; exact va_S.rf
  refine lv_aload_n hx hb dX3_fail_0 rfl (lv_at hl 0 rfl) ?_
  refine lv_iload_n hx hb dX3_fail_1 rfl (lv_at hl 1 rfl) ?_
  refine kCall_i (W0 := []) (W1 := []) hP hD hS hA [] rfl rfl (va_runS (As := [.int v]) (rest := [.ref (y 0)]) ⟨hx, hb, hml, hown, hts⟩ (c_X3_isFan_bad l D cI cZ cO cJ v H.size h) (va_cwS (rm := rmX3_isFan) 1 hts gX3_fail_X3_isFan rfl rfl rfl (by decide +kernel) ⟨Nat.le_of_ble_eq_true rfl, Nat.le_of_ble_eq_true rfl⟩) (kPreS hK hN hP hD [] rfl rfl) rfl rfl hl.1 rfl (lv_room (Nat.le_of_ble_eq_true rfl)) dX3_fail_2 ⟨Nat.zero_le _, Nat.zero_le _⟩) (fun H locs hP hD hS => ?_)
  have hP : va_P D vwCl (wM cI cZ y Lo Se Ef gp gi am li dl ck T Su Dm F Sp C Ho th) H := hP
  have hD : va_D A (wM cI cZ y Lo Se Ef gp gi am li dl ck T Su Dm F Sp C Ho th) := hD
  refine lv_if_ne (tgt := 12) hx hb dX3_fail_5 (by decide) (fun c9 => absurd (by decide +kernel) c9) (fun _ => ?_)
  refine lv_iconst (v := nI 1) hx hb dX3_fail_8 (by decide +kernel) ?_
  refine lv_goto (tgt := 26) hx hb dX3_fail_9 (by decide) ?_
  refine kCallW_i (W1 := wM cI cZ y Lo Se Ef gp gi am li dl ck T Su Dm F Sp C Ho (nI 1)) hD hS hA rfl (va_runV (As := [.int (nI 1)]) (rest := []) ⟨hx, hb, hml, hown, hts⟩ (c_X3_goes_1 l D cI cZ cO cJ y Lo Se Ef gp gi am li dl ck T Su Dm F Sp C Ho th (nI 1) H.size (by decide +kernel)) (cwV (rm := rmX3_goes) 1 hts gX3_fail_X3_goes rfl rfl rfl (by decide +kernel) ⟨Nat.le_of_ble_eq_true rfl, Nat.le_of_ble_eq_true rfl⟩) (kPreVW hK hN hP hD (va_recv hK hP (ci := 3) (q0 := 0) rfl rfl)) rfl rfl hl.1 rfl (lv_room (Nat.le_of_ble_eq_true rfl)) dX3_fail_26 ⟨Nat.zero_le _, Nat.zero_le _⟩) (fun H locs hP hD hS => ?_)
  refine lv_if_ne (tgt := 34) hx hb dX3_fail_29 (by decide) (fun c9 => absurd (by decide +kernel) c9) (fun _ => ?_)
  refine lv_iconst (v := nI 0) hx hb dX3_fail_32 (by decide +kernel) ?_
  subst hQ9
  subst hA9
  exact kRet_i hx hb hr hlocks hP hS dX3_fail_33 rfl

abbrev rmX3_repair : Room := { frames := 2, cells := 0, slots := 0, locals := 42 }
set_option maxHeartbeats 4000000 in
set_option maxRecDepth 100000 in
/-- repair_ok -/
theorem c_X3_repair_ok (l : Launch) (D : va_G) (cI cZ cO cJ : ClassId) (y : Nat → Nat) (Lo Se Ef : Nat → Int32) (gp gi am li : Int32) (dl : Nat) (ck : Nat → Nat) (T Su Dm F Sp C Ho : Nat → Int32) (th : Int32) (f : Nat) (sz : Nat) (hf : f < 8) (hF : ¬ F f = 0) : kMi l yX3_repair wsX3_repair rmX3_repair D (kT cI cZ cO cJ) [.ref (y 0), .int (nI f)] (wM cI cZ y Lo Se Ef gp gi am li dl ck T Su Dm F Sp C Ho th) (wM cI cZ y Lo Se Ef gp gi am li dl ck T Su Dm (upd F f (nI 0)) Sp C Ho (nI 0)) sz (mCnt (upd F f (nI 0)) 8) := by
  refine kEnter (cc := cX3_repair) (maxL := 2) (ret := some .int) (by decide +kernel) rfl (Nat.le_of_ble_eq_true rfl) ?_
  intro p e s m below meth c args hx hb hr hml hts hown hlocks hin hK hN A hA9 Q hQ9 hP hD hsz hS hA ls hl
  have hl : lv_has ls 2 [(0, .ref (y 0)), (1, .int (nI f))] := hl
  have hi_X3 : ∀ w ∈ u_ws RX3 TX3 17, w ∈ wsX3_repair := by decide +kernel
  obtain ⟨H, hH9⟩ : ∃ H, H = s.heap := ⟨_, rfl⟩
  rw [← hH9] at hP ⊢
  have hS : va_S A s.heap H [] := by rw [hH9]; exact va_S.rf
  refine lv_aload_n hx hb dX3_repair_0 rfl (lv_at hl 0 rfl) ?_
  refine lv_iload_n hx hb dX3_repair_1 rfl (lv_at hl 1 rfl) ?_
  refine kCall_i (W0 := []) (W1 := []) hP hD hS hA [] rfl rfl (va_runS (As := [.int (nI f)]) (rest := [.ref (y 0)]) ⟨hx, hb, hml, hown, hts⟩ (c_X3_isFan_ok l D cI cZ cO cJ (nI f) H.size (inR_nI (by omega) (by omega) (by decide))) (va_cwS (rm := rmX3_isFan) 1 hts gX3_repair_X3_isFan rfl rfl rfl (by decide +kernel) ⟨Nat.le_of_ble_eq_true rfl, Nat.le_of_ble_eq_true rfl⟩) (kPreS hK hN hP hD [] rfl rfl) rfl rfl hl.1 rfl (lv_room (Nat.le_of_ble_eq_true rfl)) dX3_repair_2 ⟨Nat.zero_le _, Nat.zero_le _⟩) (fun H locs hP hD hS => ?_)
  have hP : va_P D vwCl (wM cI cZ y Lo Se Ef gp gi am li dl ck T Su Dm F Sp C Ho th) H := hP
  have hD : va_D A (wM cI cZ y Lo Se Ef gp gi am li dl ck T Su Dm F Sp C Ho th) := hD
  refine lv_if_ne (tgt := 12) hx hb dX3_repair_5 (by decide) (fun _ => ?_) (fun c9 => absurd c9 (by decide +kernel))
  refine lv_aload_n hx hb dX3_repair_12 rfl (lv_at hl 0 rfl) ?_
  refine va_get (D := D) (ci := 3) (v := .ref (y 8)) (C := RX3) (T := TX3) (N := 17) hx hb hts hi_X3 hown hK hP 0 rfl rfl 12 (by decide) (hts (.fieldLink RX3 47 "ColdaisleModel" "hasFailed" "[Z") (by decide +kernel)) (fun _ h9 => h9) rfl dX3_repair_13 ?_
  refine lv_iload_n hx hb dX3_repair_16 rfl (lv_at hl 1 rfl) ?_
  refine k_zald hx hb hK hP 8 1 rfl rfl (i := f) (by omega) (by decide) dX3_repair_17 ?_
  refine lv_if_eq (tgt := 25) hx hb dX3_repair_18 (by decide) (fun c9 => absurd c9 hF) (fun _ => ?_)
  refine lv_iconst (v := nI 0) hx hb dX3_repair_21 (by decide +kernel) ?_
  refine lv_goto (tgt := 26) hx hb dX3_repair_22 (by decide) ?_
  refine kCallW_i (W1 := wM cI cZ y Lo Se Ef gp gi am li dl ck T Su Dm F Sp C Ho (nI 0)) hD hS hA rfl (va_runV (As := [.int (nI 0)]) (rest := []) ⟨hx, hb, hml, hown, hts⟩ (c_X3_goes_0 l D cI cZ cO cJ y Lo Se Ef gp gi am li dl ck T Su Dm F Sp C Ho th (nI 0) H.size (by decide +kernel)) (cwV (rm := rmX3_goes) 1 hts gX3_repair_X3_goes rfl rfl rfl (by decide +kernel) ⟨Nat.le_of_ble_eq_true rfl, Nat.le_of_ble_eq_true rfl⟩) (kPreVW hK hN hP hD (va_recv hK hP (ci := 3) (q0 := 0) rfl rfl)) rfl rfl hl.1 rfl (lv_room (Nat.le_of_ble_eq_true rfl)) dX3_repair_26 ⟨Nat.zero_le _, Nat.zero_le _⟩) (fun H locs hP hD hS => ?_)
  refine lv_if_ne (tgt := 34) hx hb dX3_repair_29 (by decide) (fun _ => ?_) (fun c9 => absurd c9 (by decide +kernel))
  refine lv_aload_n hx hb dX3_repair_34 rfl (lv_at hl 0 rfl) ?_
  refine va_get (D := D) (ci := 3) (v := .ref (y 8)) (C := RX3) (T := TX3) (N := 17) hx hb hts hi_X3 hown hK hP 0 rfl rfl 12 (by decide) (hts (.fieldLink RX3 47 "ColdaisleModel" "hasFailed" "[Z") (by decide +kernel)) (fun _ h9 => h9) rfl dX3_repair_35 ?_
  refine lv_iload_n hx hb dX3_repair_38 rfl (lv_at hl 1 rfl) ?_
  refine lv_iconst (v := nI 0) hx hb dX3_repair_39 (by decide +kernel) ?_
  refine k_zast hx hb hK hP hD hS 8 1 rfl rfl (i := f) (x := nI 0) (x' := nI 0) (by omega) (by decide) (by decide +kernel) dX3_repair_40 (fun H locs hP hD hS => ?_)
  have hP : va_P D vwCl (wM cI cZ y Lo Se Ef gp gi am li dl ck T Su Dm (upd F f (nI 0)) Sp C Ho (nI 0)) H := hP
  have hD : va_D A (wM cI cZ y Lo Se Ef gp gi am li dl ck T Su Dm (upd F f (nI 0)) Sp C Ho (nI 0)) := hD
  refine lv_aload_n hx hb dX3_repair_41 rfl (lv_at hl 0 rfl) ?_
  refine kCallW_i (W1 := wM cI cZ y Lo Se Ef gp gi am li dl ck T Su Dm (upd F f (nI 0)) Sp C Ho (nI 0)) hD hS hA rfl (va_runV (As := []) (rest := []) ⟨hx, hb, hml, hown, hts⟩ (c_X3_running l D cI cZ cO cJ y Lo Se Ef gp gi am li dl ck T Su Dm (upd F f (nI 0)) Sp C Ho (nI 0) H.size) (cwV (rm := rmX3_running) 0 hts gX3_repair_X3_running rfl rfl rfl (by decide +kernel) ⟨Nat.le_of_ble_eq_true rfl, Nat.le_of_ble_eq_true rfl⟩) (kPreVW hK hN hP hD (va_recv hK hP (ci := 3) (q0 := 0) rfl rfl)) rfl rfl hl.1 rfl (lv_room (Nat.le_of_ble_eq_true rfl)) dX3_repair_42 ⟨Nat.zero_le _, Nat.zero_le _⟩) (fun H locs hP hD hS => ?_)
  subst hQ9
  subst hA9
  exact kRet_i hx hb hr hlocks hP hS dX3_repair_45 rfl

set_option maxHeartbeats 4000000 in
set_option maxRecDepth 100000 in
/-- repair_two -/
theorem c_X3_repair_two (l : Launch) (D : va_G) (cI cZ cO cJ : ClassId) (y : Nat → Nat) (Lo Se Ef : Nat → Int32) (gp gi am li : Int32) (dl : Nat) (ck : Nat → Nat) (T Su Dm F Sp C Ho : Nat → Int32) (th : Int32) (f : Nat) (sz : Nat) (hf : f < 8) (hF : F f = 0) : kMi l yX3_repair wsX3_repair rmX3_repair D (kT cI cZ cO cJ) [.ref (y 0), .int (nI f)] (wM cI cZ y Lo Se Ef gp gi am li dl ck T Su Dm F Sp C Ho th) (wM cI cZ y Lo Se Ef gp gi am li dl ck T Su Dm F Sp C Ho (nI 2)) sz (nI 0) := by
  refine kEnter (cc := cX3_repair) (maxL := 2) (ret := some .int) (by decide +kernel) rfl (Nat.le_of_ble_eq_true rfl) ?_
  intro p e s m below meth c args hx hb hr hml hts hown hlocks hin hK hN A hA9 Q hQ9 hP hD hsz hS hA ls hl
  have hl : lv_has ls 2 [(0, .ref (y 0)), (1, .int (nI f))] := hl
  have hi_X3 : ∀ w ∈ u_ws RX3 TX3 17, w ∈ wsX3_repair := by decide +kernel
  obtain ⟨H, hH9⟩ : ∃ H, H = s.heap := ⟨_, rfl⟩
  rw [← hH9] at hP ⊢
  have hS : va_S A s.heap H [] := by rw [hH9]; exact va_S.rf
  refine lv_aload_n hx hb dX3_repair_0 rfl (lv_at hl 0 rfl) ?_
  refine lv_iload_n hx hb dX3_repair_1 rfl (lv_at hl 1 rfl) ?_
  refine kCall_i (W0 := []) (W1 := []) hP hD hS hA [] rfl rfl (va_runS (As := [.int (nI f)]) (rest := [.ref (y 0)]) ⟨hx, hb, hml, hown, hts⟩ (c_X3_isFan_ok l D cI cZ cO cJ (nI f) H.size (inR_nI (by omega) (by omega) (by decide))) (va_cwS (rm := rmX3_isFan) 1 hts gX3_repair_X3_isFan rfl rfl rfl (by decide +kernel) ⟨Nat.le_of_ble_eq_true rfl, Nat.le_of_ble_eq_true rfl⟩) (kPreS hK hN hP hD [] rfl rfl) rfl rfl hl.1 rfl (lv_room (Nat.le_of_ble_eq_true rfl)) dX3_repair_2 ⟨Nat.zero_le _, Nat.zero_le _⟩) (fun H locs hP hD hS => ?_)
  have hP : va_P D vwCl (wM cI cZ y Lo Se Ef gp gi am li dl ck T Su Dm F Sp C Ho th) H := hP
  have hD : va_D A (wM cI cZ y Lo Se Ef gp gi am li dl ck T Su Dm F Sp C Ho th) := hD
  refine lv_if_ne (tgt := 12) hx hb dX3_repair_5 (by decide) (fun _ => ?_) (fun c9 => absurd c9 (by decide +kernel))
  refine lv_aload_n hx hb dX3_repair_12 rfl (lv_at hl 0 rfl) ?_
  refine va_get (D := D) (ci := 3) (v := .ref (y 8)) (C := RX3) (T := TX3) (N := 17) hx hb hts hi_X3 hown hK hP 0 rfl rfl 12 (by decide) (hts (.fieldLink RX3 47 "ColdaisleModel" "hasFailed" "[Z") (by decide +kernel)) (fun _ h9 => h9) rfl dX3_repair_13 ?_
  refine lv_iload_n hx hb dX3_repair_16 rfl (lv_at hl 1 rfl) ?_
  refine k_zald hx hb hK hP 8 1 rfl rfl (i := f) (by omega) (by decide) dX3_repair_17 ?_
  refine lv_if_eq (tgt := 25) hx hb dX3_repair_18 (by decide) (fun _ => ?_) (fun c9 => absurd hF c9)
  refine lv_iconst (v := nI 2) hx hb dX3_repair_25 (by decide +kernel) ?_
  refine kCallW_i (W1 := wM cI cZ y Lo Se Ef gp gi am li dl ck T Su Dm F Sp C Ho (nI 2)) hD hS hA rfl (va_runV (As := [.int (nI 2)]) (rest := []) ⟨hx, hb, hml, hown, hts⟩ (c_X3_goes_1 l D cI cZ cO cJ y Lo Se Ef gp gi am li dl ck T Su Dm F Sp C Ho th (nI 2) H.size (by decide +kernel)) (cwV (rm := rmX3_goes) 1 hts gX3_repair_X3_goes rfl rfl rfl (by decide +kernel) ⟨Nat.le_of_ble_eq_true rfl, Nat.le_of_ble_eq_true rfl⟩) (kPreVW hK hN hP hD (va_recv hK hP (ci := 3) (q0 := 0) rfl rfl)) rfl rfl hl.1 rfl (lv_room (Nat.le_of_ble_eq_true rfl)) dX3_repair_26 ⟨Nat.zero_le _, Nat.zero_le _⟩) (fun H locs hP hD hS => ?_)
  refine lv_if_ne (tgt := 34) hx hb dX3_repair_29 (by decide) (fun c9 => absurd (by decide +kernel) c9) (fun _ => ?_)
  refine lv_iconst (v := nI 0) hx hb dX3_repair_32 (by decide +kernel) ?_
  subst hQ9
  subst hA9
  exact kRet_i hx hb hr hlocks hP hS dX3_repair_33 rfl

set_option maxHeartbeats 4000000 in
set_option maxRecDepth 100000 in
/-- repair_bad -/
theorem c_X3_repair_bad (l : Launch) (D : va_G) (cI cZ cO cJ : ClassId) (y : Nat → Nat) (Lo Se Ef : Nat → Int32) (gp gi am li : Int32) (dl : Nat) (ck : Nat → Nat) (T Su Dm F Sp C Ho : Nat → Int32) (th : Int32) (v : Int32) (sz : Nat) (h : ¬ inR v (nI 0) (nI 7)) : kMi l yX3_repair wsX3_repair rmX3_repair D (kT cI cZ cO cJ) [.ref (y 0), .int v] (wM cI cZ y Lo Se Ef gp gi am li dl ck T Su Dm F Sp C Ho th) (wM cI cZ y Lo Se Ef gp gi am li dl ck T Su Dm F Sp C Ho (nI 1)) sz (nI 0) := by
  refine kEnter (cc := cX3_repair) (maxL := 2) (ret := some .int) (by decide +kernel) rfl (Nat.le_of_ble_eq_true rfl) ?_
  intro p e s m below meth c args hx hb hr hml hts hown hlocks hin hK hN A hA9 Q hQ9 hP hD hsz hS hA ls hl
  have hl : lv_has ls 2 [(0, .ref (y 0)), (1, .int v)] := hl
  have hi_X3 : ∀ w ∈ u_ws RX3 TX3 17, w ∈ wsX3_repair := by decide +kernel
  obtain ⟨H, hH9⟩ : ∃ H, H = s.heap := ⟨_, rfl⟩
  rw [← hH9] at hP ⊢
  have hS : va_S A s.heap H [] := by rw [hH9]; exact va_S.rf
  refine lv_aload_n hx hb dX3_repair_0 rfl (lv_at hl 0 rfl) ?_
  refine lv_iload_n hx hb dX3_repair_1 rfl (lv_at hl 1 rfl) ?_
  refine kCall_i (W0 := []) (W1 := []) hP hD hS hA [] rfl rfl (va_runS (As := [.int v]) (rest := [.ref (y 0)]) ⟨hx, hb, hml, hown, hts⟩ (c_X3_isFan_bad l D cI cZ cO cJ v H.size h) (va_cwS (rm := rmX3_isFan) 1 hts gX3_repair_X3_isFan rfl rfl rfl (by decide +kernel) ⟨Nat.le_of_ble_eq_true rfl, Nat.le_of_ble_eq_true rfl⟩) (kPreS hK hN hP hD [] rfl rfl) rfl rfl hl.1 rfl (lv_room (Nat.le_of_ble_eq_true rfl)) dX3_repair_2 ⟨Nat.zero_le _, Nat.zero_le _⟩) (fun H locs hP hD hS => ?_)
  have hP : va_P D vwCl (wM cI cZ y Lo Se Ef gp gi am li dl ck T Su Dm F Sp C Ho th) H := hP
  have hD : va_D A (wM cI cZ y Lo Se Ef gp gi am li dl ck T Su Dm F Sp C Ho th) := hD
  refine lv_if_ne (tgt := 12) hx hb dX3_repair_5 (by decide) (fun c9 => absurd (by decide +kernel) c9) (fun _ => ?_)
  refine lv_iconst (v := nI 1) hx hb dX3_repair_8 (by decide +kernel) ?_
  refine lv_goto (tgt := 26) hx hb dX3_repair_9 (by decide) ?_
  refine kCallW_i (W1 := wM cI cZ y Lo Se Ef gp gi am li dl ck T Su Dm F Sp C Ho (nI 1)) hD hS hA rfl (va_runV (As := [.int (nI 1)]) (rest := []) ⟨hx, hb, hml, hown, hts⟩ (c_X3_goes_1 l D cI cZ cO cJ y Lo Se Ef gp gi am li dl ck T Su Dm F Sp C Ho th (nI 1) H.size (by decide +kernel)) (cwV (rm := rmX3_goes) 1 hts gX3_repair_X3_goes rfl rfl rfl (by decide +kernel) ⟨Nat.le_of_ble_eq_true rfl, Nat.le_of_ble_eq_true rfl⟩) (kPreVW hK hN hP hD (va_recv hK hP (ci := 3) (q0 := 0) rfl rfl)) rfl rfl hl.1 rfl (lv_room (Nat.le_of_ble_eq_true rfl)) dX3_repair_26 ⟨Nat.zero_le _, Nat.zero_le _⟩) (fun H locs hP hD hS => ?_)
  refine lv_if_ne (tgt := 34) hx hb dX3_repair_29 (by decide) (fun c9 => absurd (by decide +kernel) c9) (fun _ => ?_)
  refine lv_iconst (v := nI 0) hx hb dX3_repair_32 (by decide +kernel) ?_
  subst hQ9
  subst hA9
  exact kRet_i hx hb hr hlocks hP hS dX3_repair_33 rfl

abbrev rmX3_command : Room := { frames := 2, cells := 0, slots := 0, locals := 42 }
set_option maxHeartbeats 4000000 in
set_option maxRecDepth 100000 in
/-- command_ok -/
theorem c_X3_command_ok (l : Launch) (D : va_G) (cI cZ cO cJ : ClassId) (y : Nat → Nat) (Lo Se Ef : Nat → Int32) (gp gi am li : Int32) (dl : Nat) (ck : Nat → Nat) (T Su Dm F Sp C Ho : Nat → Int32) (th : Int32) (f : Nat) (sz : Nat) (hf : f < 8) (h0 : 0 < ck 0) (hc : ck 0 < 2 ^ 30) : kMi l yX3_command wsX3_command rmX3_command D (kT cI cZ cO cJ) [.ref (y 0), .int (nI f)] (wM cI cZ y Lo Se Ef gp gi am li dl ck T Su Dm F Sp C Ho th) (wM cI cZ y Lo Se Ef gp gi am li dl ck T Su Dm F Sp C Ho (nI 0)) sz (C (9 * (8 * 0 + f) + (ck 0 - 1) % 9)) := by
  refine kEnter (cc := cX3_command) (maxL := 2) (ret := some .int) (by decide +kernel) rfl (Nat.le_of_ble_eq_true rfl) ?_
  intro p e s m below meth c args hx hb hr hml hts hown hlocks hin hK hN A hA9 Q hQ9 hP hD hsz hS hA ls hl
  have hl : lv_has ls 2 [(0, .ref (y 0)), (1, .int (nI f))] := hl
  have hi_X3 : ∀ w ∈ u_ws RX3 TX3 17, w ∈ wsX3_command := by decide +kernel
  obtain ⟨H, hH9⟩ : ∃ H, H = s.heap := ⟨_, rfl⟩
  rw [← hH9] at hP ⊢
  have hS : va_S A s.heap H [] := by rw [hH9]; exact va_S.rf
  refine lv_aload_n hx hb dX3_command_0 rfl (lv_at hl 0 rfl) ?_
  refine lv_iload_n hx hb dX3_command_1 rfl (lv_at hl 1 rfl) ?_
  refine kCall_i (W0 := []) (W1 := []) hP hD hS hA [] rfl rfl (va_runS (As := [.int (nI f)]) (rest := [.ref (y 0)]) ⟨hx, hb, hml, hown, hts⟩ (c_X3_isFan_ok l D cI cZ cO cJ (nI f) H.size (inR_nI (by omega) (by omega) (by decide))) (va_cwS (rm := rmX3_isFan) 1 hts gX3_command_X3_isFan rfl rfl rfl (by decide +kernel) ⟨Nat.le_of_ble_eq_true rfl, Nat.le_of_ble_eq_true rfl⟩) (kPreS hK hN hP hD [] rfl rfl) rfl rfl hl.1 rfl (lv_room (Nat.le_of_ble_eq_true rfl)) dX3_command_2 ⟨Nat.zero_le _, Nat.zero_le _⟩) (fun H locs hP hD hS => ?_)
  have hP : va_P D vwCl (wM cI cZ y Lo Se Ef gp gi am li dl ck T Su Dm F Sp C Ho th) H := hP
  have hD : va_D A (wM cI cZ y Lo Se Ef gp gi am li dl ck T Su Dm F Sp C Ho th) := hD
  refine lv_if_eq (tgt := 12) hx hb dX3_command_5 (by decide) (fun c9 => absurd c9 (by decide +kernel)) (fun _ => ?_)
  refine lv_iconst (v := nI 0) hx hb dX3_command_8 (by decide +kernel) ?_
  refine lv_goto (tgt := 13) hx hb dX3_command_9 (by decide) ?_
  refine kCallW_i (W1 := wM cI cZ y Lo Se Ef gp gi am li dl ck T Su Dm F Sp C Ho (nI 0)) hD hS hA rfl (va_runV (As := [.int (nI 0)]) (rest := []) ⟨hx, hb, hml, hown, hts⟩ (c_X3_goes_0 l D cI cZ cO cJ y Lo Se Ef gp gi am li dl ck T Su Dm F Sp C Ho th (nI 0) H.size (by decide +kernel)) (cwV (rm := rmX3_goes) 1 hts gX3_command_X3_goes rfl rfl rfl (by decide +kernel) ⟨Nat.le_of_ble_eq_true rfl, Nat.le_of_ble_eq_true rfl⟩) (kPreVW hK hN hP hD (va_recv hK hP (ci := 3) (q0 := 0) rfl rfl)) rfl rfl hl.1 rfl (lv_room (Nat.le_of_ble_eq_true rfl)) dX3_command_13 ⟨Nat.zero_le _, Nat.zero_le _⟩) (fun H locs hP hD hS => ?_)
  refine lv_if_eq (tgt := 49) hx hb dX3_command_16 (by decide) (fun c9 => absurd c9 (by decide +kernel)) (fun _ => ?_)
  refine lv_aload_n hx hb dX3_command_19 rfl (lv_at hl 0 rfl) ?_
  refine va_get (D := D) (ci := 3) (v := .ref (y 4)) (C := RX3) (T := TX3) (N := 17) hx hb hts hi_X3 hown hK hP 0 rfl rfl 8 (by decide) (hts (.fieldLink RX3 35 "ColdaisleModel" "clocks" "[I") (by decide +kernel)) (fun _ h9 => h9) rfl dX3_command_20 ?_
  refine lv_iconst (v := nI 0) hx hb dX3_command_23 (by decide +kernel) ?_
  refine k_iald hx hb hK hP 4 0 rfl rfl (i := 0) (by decide) (by decide) dX3_command_24 ?_
  refine k_as rfl ?_
  refine lv_if_le (tgt := 49) hx hb dX3_command_25 (by decide) (fun c9 => absurd c9 (nI_nle h0 (by omega))) (fun _ => ?_)
  refine lv_aload_n hx hb dX3_command_28 rfl (lv_at hl 0 rfl) ?_
  refine va_get (D := D) (ci := 3) (v := .ref (y 10)) (C := RX3) (T := TX3) (N := 17) hx hb hts hi_X3 hown hK hP 0 rfl rfl 14 (by decide) (hts (.fieldLink RX3 54 "ColdaisleModel" "commands" "[I") (by decide +kernel)) (fun _ h9 => h9) rfl dX3_command_29 ?_
  refine lv_iconst (v := nI 0) hx hb dX3_command_32 (by decide +kernel) ?_
  refine lv_iload_n hx hb dX3_command_33 rfl (lv_at hl 1 rfl) ?_
  refine lv_aload_n hx hb dX3_command_34 rfl (lv_at hl 0 rfl) ?_
  refine va_get (D := D) (ci := 3) (v := .ref (y 4)) (C := RX3) (T := TX3) (N := 17) hx hb hts hi_X3 hown hK hP 0 rfl rfl 8 (by decide) (hts (.fieldLink RX3 35 "ColdaisleModel" "clocks" "[I") (by decide +kernel)) (fun _ h9 => h9) rfl dX3_command_35 ?_
  refine lv_iconst (v := nI 0) hx hb dX3_command_38 (by decide +kernel) ?_
  refine k_iald hx hb hK hP 4 0 rfl rfl (i := 0) (by decide) (by decide) dX3_command_39 ?_
  refine k_as rfl ?_
  refine lv_iconst (v := nI 1) hx hb dX3_command_40 (by decide +kernel) ?_
  refine lv_isub hx hb dX3_command_41 ?_
  refine k_as (pk_sub h0) ?_
  refine kCall_i (W0 := []) (W1 := []) hP hD hS hA [] rfl rfl (va_runS (As := [.int (nI 0), .int (nI f), .int (nI (ck 0 - 1))]) (rest := [.ref (y 10)]) ⟨hx, hb, hml, hown, hts⟩ (c_X3_commandAt l D cI cZ cO cJ 0 f (ck 0 - 1) H.size (by omega)) (va_cwS (rm := rmX3_commandAt) 3 hts gX3_command_X3_commandAt rfl rfl rfl (by decide +kernel) ⟨Nat.le_of_ble_eq_true rfl, Nat.le_of_ble_eq_true rfl⟩) (kPreS hK hN hP hD [] rfl rfl) rfl rfl hl.1 rfl (lv_room (Nat.le_of_ble_eq_true rfl)) dX3_command_42 ⟨Nat.zero_le _, Nat.zero_le _⟩) (fun H locs hP hD hS => ?_)
  have hP : va_P D vwCl (wM cI cZ y Lo Se Ef gp gi am li dl ck T Su Dm F Sp C Ho (nI 0)) H := hP
  have hD : va_D A (wM cI cZ y Lo Se Ef gp gi am li dl ck T Su Dm F Sp C Ho (nI 0)) := hD
  refine k_iald hx hb hK hP 10 0 rfl rfl (i := 9 * (8 * 0 + f) + (ck 0 - 1) % 9) (by omega) (by decide) dX3_command_45 ?_
  refine lv_goto (tgt := 50) hx hb dX3_command_46 (by decide) ?_
  subst hQ9
  subst hA9
  exact kRet_i hx hb hr hlocks hP hS dX3_command_50 rfl

set_option maxHeartbeats 4000000 in
set_option maxRecDepth 100000 in
/-- command_ok0 -/
theorem c_X3_command_ok0 (l : Launch) (D : va_G) (cI cZ cO cJ : ClassId) (y : Nat → Nat) (Lo Se Ef : Nat → Int32) (gp gi am li : Int32) (dl : Nat) (ck : Nat → Nat) (T Su Dm F Sp C Ho : Nat → Int32) (th : Int32) (f : Nat) (sz : Nat) (hf : f < 8) (h0 : ck 0 = 0) : kMi l yX3_command wsX3_command rmX3_command D (kT cI cZ cO cJ) [.ref (y 0), .int (nI f)] (wM cI cZ y Lo Se Ef gp gi am li dl ck T Su Dm F Sp C Ho th) (wM cI cZ y Lo Se Ef gp gi am li dl ck T Su Dm F Sp C Ho (nI 0)) sz (nI 0) := by
  refine kEnter (cc := cX3_command) (maxL := 2) (ret := some .int) (by decide +kernel) rfl (Nat.le_of_ble_eq_true rfl) ?_
  intro p e s m below meth c args hx hb hr hml hts hown hlocks hin hK hN A hA9 Q hQ9 hP hD hsz hS hA ls hl
  have hl : lv_has ls 2 [(0, .ref (y 0)), (1, .int (nI f))] := hl
  have hi_X3 : ∀ w ∈ u_ws RX3 TX3 17, w ∈ wsX3_command := by decide +kernel
  obtain ⟨H, hH9⟩ : ∃ H, H = s.heap := ⟨_, rfl⟩
  rw [← hH9] at hP ⊢
  have hS : va_S A s.heap H [] := by rw [hH9]; exact va_S.rf
  refine lv_aload_n hx hb dX3_command_0 rfl (lv_at hl 0 rfl) ?_
  refine lv_iload_n hx hb dX3_command_1 rfl (lv_at hl 1 rfl) ?_
  refine kCall_i (W0 := []) (W1 := []) hP hD hS hA [] rfl rfl (va_runS (As := [.int (nI f)]) (rest := [.ref (y 0)]) ⟨hx, hb, hml, hown, hts⟩ (c_X3_isFan_ok l D cI cZ cO cJ (nI f) H.size (inR_nI (by omega) (by omega) (by decide))) (va_cwS (rm := rmX3_isFan) 1 hts gX3_command_X3_isFan rfl rfl rfl (by decide +kernel) ⟨Nat.le_of_ble_eq_true rfl, Nat.le_of_ble_eq_true rfl⟩) (kPreS hK hN hP hD [] rfl rfl) rfl rfl hl.1 rfl (lv_room (Nat.le_of_ble_eq_true rfl)) dX3_command_2 ⟨Nat.zero_le _, Nat.zero_le _⟩) (fun H locs hP hD hS => ?_)
  have hP : va_P D vwCl (wM cI cZ y Lo Se Ef gp gi am li dl ck T Su Dm F Sp C Ho th) H := hP
  have hD : va_D A (wM cI cZ y Lo Se Ef gp gi am li dl ck T Su Dm F Sp C Ho th) := hD
  refine lv_if_eq (tgt := 12) hx hb dX3_command_5 (by decide) (fun c9 => absurd c9 (by decide +kernel)) (fun _ => ?_)
  refine lv_iconst (v := nI 0) hx hb dX3_command_8 (by decide +kernel) ?_
  refine lv_goto (tgt := 13) hx hb dX3_command_9 (by decide) ?_
  refine kCallW_i (W1 := wM cI cZ y Lo Se Ef gp gi am li dl ck T Su Dm F Sp C Ho (nI 0)) hD hS hA rfl (va_runV (As := [.int (nI 0)]) (rest := []) ⟨hx, hb, hml, hown, hts⟩ (c_X3_goes_0 l D cI cZ cO cJ y Lo Se Ef gp gi am li dl ck T Su Dm F Sp C Ho th (nI 0) H.size (by decide +kernel)) (cwV (rm := rmX3_goes) 1 hts gX3_command_X3_goes rfl rfl rfl (by decide +kernel) ⟨Nat.le_of_ble_eq_true rfl, Nat.le_of_ble_eq_true rfl⟩) (kPreVW hK hN hP hD (va_recv hK hP (ci := 3) (q0 := 0) rfl rfl)) rfl rfl hl.1 rfl (lv_room (Nat.le_of_ble_eq_true rfl)) dX3_command_13 ⟨Nat.zero_le _, Nat.zero_le _⟩) (fun H locs hP hD hS => ?_)
  refine lv_if_eq (tgt := 49) hx hb dX3_command_16 (by decide) (fun c9 => absurd c9 (by decide +kernel)) (fun _ => ?_)
  refine lv_aload_n hx hb dX3_command_19 rfl (lv_at hl 0 rfl) ?_
  refine va_get (D := D) (ci := 3) (v := .ref (y 4)) (C := RX3) (T := TX3) (N := 17) hx hb hts hi_X3 hown hK hP 0 rfl rfl 8 (by decide) (hts (.fieldLink RX3 35 "ColdaisleModel" "clocks" "[I") (by decide +kernel)) (fun _ h9 => h9) rfl dX3_command_20 ?_
  refine lv_iconst (v := nI 0) hx hb dX3_command_23 (by decide +kernel) ?_
  refine k_iald hx hb hK hP 4 0 rfl rfl (i := 0) (by decide) (by decide) dX3_command_24 ?_
  refine k_as rfl ?_
  refine lv_if_le (tgt := 49) hx hb dX3_command_25 (by decide) (fun _ => ?_) (fun c9 => absurd (by rw [h0]; decide +kernel) c9)
  refine lv_iconst (v := nI 0) hx hb dX3_command_49 (by decide +kernel) ?_
  subst hQ9
  subst hA9
  exact kRet_i hx hb hr hlocks hP hS dX3_command_50 rfl

set_option maxHeartbeats 4000000 in
set_option maxRecDepth 100000 in
/-- command_bad -/
theorem c_X3_command_bad (l : Launch) (D : va_G) (cI cZ cO cJ : ClassId) (y : Nat → Nat) (Lo Se Ef : Nat → Int32) (gp gi am li : Int32) (dl : Nat) (ck : Nat → Nat) (T Su Dm F Sp C Ho : Nat → Int32) (th : Int32) (v : Int32) (sz : Nat) (h : ¬ inR v (nI 0) (nI 7)) : kMi l yX3_command wsX3_command rmX3_command D (kT cI cZ cO cJ) [.ref (y 0), .int v] (wM cI cZ y Lo Se Ef gp gi am li dl ck T Su Dm F Sp C Ho th) (wM cI cZ y Lo Se Ef gp gi am li dl ck T Su Dm F Sp C Ho (nI 1)) sz (nI 0) := by
  refine kEnter (cc := cX3_command) (maxL := 2) (ret := some .int) (by decide +kernel) rfl (Nat.le_of_ble_eq_true rfl) ?_
  intro p e s m below meth c args hx hb hr hml hts hown hlocks hin hK hN A hA9 Q hQ9 hP hD hsz hS hA ls hl
  have hl : lv_has ls 2 [(0, .ref (y 0)), (1, .int v)] := hl
  have hi_X3 : ∀ w ∈ u_ws RX3 TX3 17, w ∈ wsX3_command := by decide +kernel
  obtain ⟨H, hH9⟩ : ∃ H, H = s.heap := ⟨_, rfl⟩
  rw [← hH9] at hP ⊢
  have hS : va_S A s.heap H [] := by rw [hH9]; exact va_S.rf
  refine lv_aload_n hx hb dX3_command_0 rfl (lv_at hl 0 rfl) ?_
  refine lv_iload_n hx hb dX3_command_1 rfl (lv_at hl 1 rfl) ?_
  refine kCall_i (W0 := []) (W1 := []) hP hD hS hA [] rfl rfl (va_runS (As := [.int v]) (rest := [.ref (y 0)]) ⟨hx, hb, hml, hown, hts⟩ (c_X3_isFan_bad l D cI cZ cO cJ v H.size h) (va_cwS (rm := rmX3_isFan) 1 hts gX3_command_X3_isFan rfl rfl rfl (by decide +kernel) ⟨Nat.le_of_ble_eq_true rfl, Nat.le_of_ble_eq_true rfl⟩) (kPreS hK hN hP hD [] rfl rfl) rfl rfl hl.1 rfl (lv_room (Nat.le_of_ble_eq_true rfl)) dX3_command_2 ⟨Nat.zero_le _, Nat.zero_le _⟩) (fun H locs hP hD hS => ?_)
  have hP : va_P D vwCl (wM cI cZ y Lo Se Ef gp gi am li dl ck T Su Dm F Sp C Ho th) H := hP
  have hD : va_D A (wM cI cZ y Lo Se Ef gp gi am li dl ck T Su Dm F Sp C Ho th) := hD
  refine lv_if_eq (tgt := 12) hx hb dX3_command_5 (by decide) (fun _ => ?_) (fun c9 => absurd (by decide +kernel) c9)
  refine lv_iconst (v := nI 1) hx hb dX3_command_12 (by decide +kernel) ?_
  refine kCallW_i (W1 := wM cI cZ y Lo Se Ef gp gi am li dl ck T Su Dm F Sp C Ho (nI 1)) hD hS hA rfl (va_runV (As := [.int (nI 1)]) (rest := []) ⟨hx, hb, hml, hown, hts⟩ (c_X3_goes_1 l D cI cZ cO cJ y Lo Se Ef gp gi am li dl ck T Su Dm F Sp C Ho th (nI 1) H.size (by decide +kernel)) (cwV (rm := rmX3_goes) 1 hts gX3_command_X3_goes rfl rfl rfl (by decide +kernel) ⟨Nat.le_of_ble_eq_true rfl, Nat.le_of_ble_eq_true rfl⟩) (kPreVW hK hN hP hD (va_recv hK hP (ci := 3) (q0 := 0) rfl rfl)) rfl rfl hl.1 rfl (lv_room (Nat.le_of_ble_eq_true rfl)) dX3_command_13 ⟨Nat.zero_le _, Nat.zero_le _⟩) (fun H locs hP hD hS => ?_)
  refine lv_if_eq (tgt := 49) hx hb dX3_command_16 (by decide) (fun _ => ?_) (fun c9 => absurd (by decide +kernel) c9)
  refine lv_iconst (v := nI 0) hx hb dX3_command_49 (by decide +kernel) ?_
  subst hQ9
  subst hA9
  exact kRet_i hx hb hr hlocks hP hS dX3_command_50 rfl

abbrev rmX3_speed : Room := { frames := 2, cells := 0, slots := 0, locals := 42 }
set_option maxHeartbeats 4000000 in
set_option maxRecDepth 100000 in
/-- speed_ok -/
theorem c_X3_speed_ok (l : Launch) (D : va_G) (cI cZ cO cJ : ClassId) (y : Nat → Nat) (Lo Se Ef : Nat → Int32) (gp gi am li : Int32) (dl : Nat) (ck : Nat → Nat) (T Su Dm F Sp C Ho : Nat → Int32) (th : Int32) (f : Nat) (sz : Nat) (hf : f < 8) : kMi l yX3_speed wsX3_speed rmX3_speed D (kT cI cZ cO cJ) [.ref (y 0), .int (nI f)] (wM cI cZ y Lo Se Ef gp gi am li dl ck T Su Dm F Sp C Ho th) (wM cI cZ y Lo Se Ef gp gi am li dl ck T Su Dm F Sp C Ho (nI 0)) sz (Sp f) := by
  refine kEnter (cc := cX3_speed) (maxL := 2) (ret := some .int) (by decide +kernel) rfl (Nat.le_of_ble_eq_true rfl) ?_
  intro p e s m below meth c args hx hb hr hml hts hown hlocks hin hK hN A hA9 Q hQ9 hP hD hsz hS hA ls hl
  have hl : lv_has ls 2 [(0, .ref (y 0)), (1, .int (nI f))] := hl
  have hi_X3 : ∀ w ∈ u_ws RX3 TX3 17, w ∈ wsX3_speed := by decide +kernel
  obtain ⟨H, hH9⟩ : ∃ H, H = s.heap := ⟨_, rfl⟩
  rw [← hH9] at hP ⊢
  have hS : va_S A s.heap H [] := by rw [hH9]; exact va_S.rf
  refine lv_aload_n hx hb dX3_speed_0 rfl (lv_at hl 0 rfl) ?_
  refine lv_iload_n hx hb dX3_speed_1 rfl (lv_at hl 1 rfl) ?_
  refine kCall_i (W0 := []) (W1 := []) hP hD hS hA [] rfl rfl (va_runS (As := [.int (nI f)]) (rest := [.ref (y 0)]) ⟨hx, hb, hml, hown, hts⟩ (c_X3_isFan_ok l D cI cZ cO cJ (nI f) H.size (inR_nI (by omega) (by omega) (by decide))) (va_cwS (rm := rmX3_isFan) 1 hts gX3_speed_X3_isFan rfl rfl rfl (by decide +kernel) ⟨Nat.le_of_ble_eq_true rfl, Nat.le_of_ble_eq_true rfl⟩) (kPreS hK hN hP hD [] rfl rfl) rfl rfl hl.1 rfl (lv_room (Nat.le_of_ble_eq_true rfl)) dX3_speed_2 ⟨Nat.zero_le _, Nat.zero_le _⟩) (fun H locs hP hD hS => ?_)
  have hP : va_P D vwCl (wM cI cZ y Lo Se Ef gp gi am li dl ck T Su Dm F Sp C Ho th) H := hP
  have hD : va_D A (wM cI cZ y Lo Se Ef gp gi am li dl ck T Su Dm F Sp C Ho th) := hD
  refine lv_if_eq (tgt := 12) hx hb dX3_speed_5 (by decide) (fun c9 => absurd c9 (by decide +kernel)) (fun _ => ?_)
  refine lv_iconst (v := nI 0) hx hb dX3_speed_8 (by decide +kernel) ?_
  refine lv_goto (tgt := 13) hx hb dX3_speed_9 (by decide) ?_
  refine kCallW_i (W1 := wM cI cZ y Lo Se Ef gp gi am li dl ck T Su Dm F Sp C Ho (nI 0)) hD hS hA rfl (va_runV (As := [.int (nI 0)]) (rest := []) ⟨hx, hb, hml, hown, hts⟩ (c_X3_goes_0 l D cI cZ cO cJ y Lo Se Ef gp gi am li dl ck T Su Dm F Sp C Ho th (nI 0) H.size (by decide +kernel)) (cwV (rm := rmX3_goes) 1 hts gX3_speed_X3_goes rfl rfl rfl (by decide +kernel) ⟨Nat.le_of_ble_eq_true rfl, Nat.le_of_ble_eq_true rfl⟩) (kPreVW hK hN hP hD (va_recv hK hP (ci := 3) (q0 := 0) rfl rfl)) rfl rfl hl.1 rfl (lv_room (Nat.le_of_ble_eq_true rfl)) dX3_speed_13 ⟨Nat.zero_le _, Nat.zero_le _⟩) (fun H locs hP hD hS => ?_)
  refine lv_if_eq (tgt := 28) hx hb dX3_speed_16 (by decide) (fun c9 => absurd c9 (by decide +kernel)) (fun _ => ?_)
  refine lv_aload_n hx hb dX3_speed_19 rfl (lv_at hl 0 rfl) ?_
  refine va_get (D := D) (ci := 3) (v := .ref (y 9)) (C := RX3) (T := TX3) (N := 17) hx hb hts hi_X3 hown hK hP 0 rfl rfl 13 (by decide) (hts (.fieldLink RX3 51 "ColdaisleModel" "speeds" "[I") (by decide +kernel)) (fun _ h9 => h9) rfl dX3_speed_20 ?_
  refine lv_iload_n hx hb dX3_speed_23 rfl (lv_at hl 1 rfl) ?_
  refine k_iald hx hb hK hP 9 0 rfl rfl (i := f) (by omega) (by decide) dX3_speed_24 ?_
  refine lv_goto (tgt := 29) hx hb dX3_speed_25 (by decide) ?_
  subst hQ9
  subst hA9
  exact kRet_i hx hb hr hlocks hP hS dX3_speed_29 rfl

set_option maxHeartbeats 4000000 in
set_option maxRecDepth 100000 in
/-- speed_bad -/
theorem c_X3_speed_bad (l : Launch) (D : va_G) (cI cZ cO cJ : ClassId) (y : Nat → Nat) (Lo Se Ef : Nat → Int32) (gp gi am li : Int32) (dl : Nat) (ck : Nat → Nat) (T Su Dm F Sp C Ho : Nat → Int32) (th : Int32) (v : Int32) (sz : Nat) (h : ¬ inR v (nI 0) (nI 7)) : kMi l yX3_speed wsX3_speed rmX3_speed D (kT cI cZ cO cJ) [.ref (y 0), .int v] (wM cI cZ y Lo Se Ef gp gi am li dl ck T Su Dm F Sp C Ho th) (wM cI cZ y Lo Se Ef gp gi am li dl ck T Su Dm F Sp C Ho (nI 1)) sz (nI 0) := by
  refine kEnter (cc := cX3_speed) (maxL := 2) (ret := some .int) (by decide +kernel) rfl (Nat.le_of_ble_eq_true rfl) ?_
  intro p e s m below meth c args hx hb hr hml hts hown hlocks hin hK hN A hA9 Q hQ9 hP hD hsz hS hA ls hl
  have hl : lv_has ls 2 [(0, .ref (y 0)), (1, .int v)] := hl
  have hi_X3 : ∀ w ∈ u_ws RX3 TX3 17, w ∈ wsX3_speed := by decide +kernel
  obtain ⟨H, hH9⟩ : ∃ H, H = s.heap := ⟨_, rfl⟩
  rw [← hH9] at hP ⊢
  have hS : va_S A s.heap H [] := by rw [hH9]; exact va_S.rf
  refine lv_aload_n hx hb dX3_speed_0 rfl (lv_at hl 0 rfl) ?_
  refine lv_iload_n hx hb dX3_speed_1 rfl (lv_at hl 1 rfl) ?_
  refine kCall_i (W0 := []) (W1 := []) hP hD hS hA [] rfl rfl (va_runS (As := [.int v]) (rest := [.ref (y 0)]) ⟨hx, hb, hml, hown, hts⟩ (c_X3_isFan_bad l D cI cZ cO cJ v H.size h) (va_cwS (rm := rmX3_isFan) 1 hts gX3_speed_X3_isFan rfl rfl rfl (by decide +kernel) ⟨Nat.le_of_ble_eq_true rfl, Nat.le_of_ble_eq_true rfl⟩) (kPreS hK hN hP hD [] rfl rfl) rfl rfl hl.1 rfl (lv_room (Nat.le_of_ble_eq_true rfl)) dX3_speed_2 ⟨Nat.zero_le _, Nat.zero_le _⟩) (fun H locs hP hD hS => ?_)
  have hP : va_P D vwCl (wM cI cZ y Lo Se Ef gp gi am li dl ck T Su Dm F Sp C Ho th) H := hP
  have hD : va_D A (wM cI cZ y Lo Se Ef gp gi am li dl ck T Su Dm F Sp C Ho th) := hD
  refine lv_if_eq (tgt := 12) hx hb dX3_speed_5 (by decide) (fun _ => ?_) (fun c9 => absurd (by decide +kernel) c9)
  refine lv_iconst (v := nI 1) hx hb dX3_speed_12 (by decide +kernel) ?_
  refine kCallW_i (W1 := wM cI cZ y Lo Se Ef gp gi am li dl ck T Su Dm F Sp C Ho (nI 1)) hD hS hA rfl (va_runV (As := [.int (nI 1)]) (rest := []) ⟨hx, hb, hml, hown, hts⟩ (c_X3_goes_1 l D cI cZ cO cJ y Lo Se Ef gp gi am li dl ck T Su Dm F Sp C Ho th (nI 1) H.size (by decide +kernel)) (cwV (rm := rmX3_goes) 1 hts gX3_speed_X3_goes rfl rfl rfl (by decide +kernel) ⟨Nat.le_of_ble_eq_true rfl, Nat.le_of_ble_eq_true rfl⟩) (kPreVW hK hN hP hD (va_recv hK hP (ci := 3) (q0 := 0) rfl rfl)) rfl rfl hl.1 rfl (lv_room (Nat.le_of_ble_eq_true rfl)) dX3_speed_13 ⟨Nat.zero_le _, Nat.zero_le _⟩) (fun H locs hP hD hS => ?_)
  refine lv_if_eq (tgt := 28) hx hb dX3_speed_16 (by decide) (fun _ => ?_) (fun c9 => absurd (by decide +kernel) c9)
  refine lv_iconst (v := nI 0) hx hb dX3_speed_28 (by decide +kernel) ?_
  subst hQ9
  subst hA9
  exact kRet_i hx hb hr hlocks hP hS dX3_speed_29 rfl

abbrev rmX3_clock : Room := { frames := 0, cells := 0, slots := 0, locals := 0 }
set_option maxHeartbeats 4000000 in
set_option maxRecDepth 100000 in
/-- clock -/
theorem c_X3_clock (l : Launch) (D : va_G) (cI cZ cO cJ : ClassId) (y : Nat → Nat) (Lo Se Ef : Nat → Int32) (gp gi am li : Int32) (dl : Nat) (ck : Nat → Nat) (T Su Dm F Sp C Ho : Nat → Int32) (th : Int32) (sz : Nat) : kMi l yX3_clock wsX3_clock rmX3_clock D (kT cI cZ cO cJ) [.ref (y 0)] (wM cI cZ y Lo Se Ef gp gi am li dl ck T Su Dm F Sp C Ho th) (wM cI cZ y Lo Se Ef gp gi am li dl ck T Su Dm F Sp C Ho (nI 0)) sz (nI (ck 0)) := by
  refine kEnter (cc := cX3_clock) (maxL := 1) (ret := some .int) (by decide +kernel) rfl (Nat.le_of_ble_eq_true rfl) ?_
  intro p e s m below meth c args hx hb hr hml hts hown hlocks hin hK hN A hA9 Q hQ9 hP hD hsz hS hA ls hl
  have hl : lv_has ls 1 [(0, .ref (y 0))] := hl
  have hi_X3 : ∀ w ∈ u_ws RX3 TX3 17, w ∈ wsX3_clock := by decide +kernel
  obtain ⟨H, hH9⟩ : ∃ H, H = s.heap := ⟨_, rfl⟩
  rw [← hH9] at hP ⊢
  have hS : va_S A s.heap H [] := by rw [hH9]; exact va_S.rf
  refine lv_aload_n hx hb dX3_clock_0 rfl (lv_at hl 0 rfl) ?_
  refine lv_iconst (v := nI 0) hx hb dX3_clock_1 (by decide +kernel) ?_
  refine va_put (D := D) (ci := 3) (v := .int (nI 0)) (ty := tyX3 16) (C := RX3) (T := TX3) (N := 17) hx hb hts hi_X3 tyX3 tyX3_ok nmX3 hown hK hP hD hS 0 rfl rfl 16 (by decide) (hts (.fieldLink RX3 60 "ColdaisleModel" "thrown" "I") (by decide +kernel)) (fun _ h9 => h9) rfl (by decide +kernel) rfl rfl (Nat.le_of_ble_eq_true rfl) dX3_clock_2 (fun H locs hP hD hS => ?_)
  have hP : va_P D vwCl (wM cI cZ y Lo Se Ef gp gi am li dl ck T Su Dm F Sp C Ho (nI 0)) H := hP
  have hD : va_D A (wM cI cZ y Lo Se Ef gp gi am li dl ck T Su Dm F Sp C Ho (nI 0)) := hD
  refine lv_aload_n hx hb dX3_clock_5 rfl (lv_at hl 0 rfl) ?_
  refine va_get (D := D) (ci := 3) (v := .ref (y 4)) (C := RX3) (T := TX3) (N := 17) hx hb hts hi_X3 hown hK hP 0 rfl rfl 8 (by decide) (hts (.fieldLink RX3 35 "ColdaisleModel" "clocks" "[I") (by decide +kernel)) (fun _ h9 => h9) rfl dX3_clock_6 ?_
  refine lv_iconst (v := nI 0) hx hb dX3_clock_9 (by decide +kernel) ?_
  refine k_iald hx hb hK hP 4 0 rfl rfl (i := 0) (by decide) (by decide) dX3_clock_10 ?_
  refine k_as rfl ?_
  subst hQ9
  subst hA9
  exact kRet_i hx hb hr hlocks hP hS dX3_clock_11 rfl

abbrev rmX3_temperature : Room := { frames := 3, cells := 0, slots := 0, locals := 63 }
set_option maxHeartbeats 4000000 in
set_option maxRecDepth 100000 in
/-- temperature_ok -/
theorem c_X3_temperature_ok (l : Launch) (D : va_G) (cI cZ cO cJ : ClassId) (y : Nat → Nat) (Lo Se Ef : Nat → Int32) (gp gi am li : Int32) (dl : Nat) (ck : Nat → Nat) (T Su Dm F Sp C Ho : Nat → Int32) (th : Int32) (z : Nat) (sz : Nat) (hz : z < 6) : kMi l yX3_temperature wsX3_temperature rmX3_temperature D (kT cI cZ cO cJ) [.ref (y 0), .int (nI z)] (wM cI cZ y Lo Se Ef gp gi am li dl ck T Su Dm F Sp C Ho th) (wM cI cZ y Lo Se Ef gp gi am li dl ck T Su Dm F Sp C Ho (nI 0)) sz (T z) := by
  refine kEnter (cc := cX3_temperature) (maxL := 2) (ret := some .int) (by decide +kernel) rfl (Nat.le_of_ble_eq_true rfl) ?_
  intro p e s m below meth c args hx hb hr hml hts hown hlocks hin hK hN A hA9 Q hQ9 hP hD hsz hS hA ls hl
  have hl : lv_has ls 2 [(0, .ref (y 0)), (1, .int (nI z))] := hl
  have hi_X3 : ∀ w ∈ u_ws RX3 TX3 17, w ∈ wsX3_temperature := by decide +kernel
  obtain ⟨H, hH9⟩ : ∃ H, H = s.heap := ⟨_, rfl⟩
  rw [← hH9] at hP ⊢
  have hS : va_S A s.heap H [] := by rw [hH9]; exact va_S.rf
  refine lv_aload_n hx hb dX3_temperature_0 rfl (lv_at hl 0 rfl) ?_
  refine lv_iload_n hx hb dX3_temperature_1 rfl (lv_at hl 1 rfl) ?_
  refine kCallW_i (W1 := wM cI cZ y Lo Se Ef gp gi am li dl ck T Su Dm F Sp C Ho (nI 0)) hD hS hA rfl (va_runV (As := [.int (nI z)]) (rest := []) ⟨hx, hb, hml, hown, hts⟩ (c_X3_asks_ok l D cI cZ cO cJ y Lo Se Ef gp gi am li dl ck T Su Dm F Sp C Ho th (nI z) H.size (inR_nI (by omega) (by omega) (by decide))) (cwV (rm := rmX3_asks) 1 hts gX3_temperature_X3_asks rfl rfl rfl (by decide +kernel) ⟨Nat.le_of_ble_eq_true rfl, Nat.le_of_ble_eq_true rfl⟩) (kPreVW hK hN hP hD (va_recv hK hP (ci := 3) (q0 := 0) rfl rfl)) rfl rfl hl.1 rfl (lv_room (Nat.le_of_ble_eq_true rfl)) dX3_temperature_2 ⟨Nat.zero_le _, Nat.zero_le _⟩) (fun H locs hP hD hS => ?_)
  refine lv_if_eq (tgt := 17) hx hb dX3_temperature_5 (by decide) (fun c9 => absurd c9 (by decide +kernel)) (fun _ => ?_)
  refine lv_aload_n hx hb dX3_temperature_8 rfl (lv_at hl 0 rfl) ?_
  refine va_get (D := D) (ci := 3) (v := .ref (y 5)) (C := RX3) (T := TX3) (N := 17) hx hb hts hi_X3 hown hK hP 0 rfl rfl 9 (by decide) (hts (.fieldLink RX3 38 "ColdaisleModel" "temperatures" "[I") (by decide +kernel)) (fun _ h9 => h9) rfl dX3_temperature_9 ?_
  refine lv_iload_n hx hb dX3_temperature_12 rfl (lv_at hl 1 rfl) ?_
  refine k_iald hx hb hK hP 5 0 rfl rfl (i := z) (by omega) (by decide) dX3_temperature_13 ?_
  refine lv_goto (tgt := 18) hx hb dX3_temperature_14 (by decide) ?_
  subst hQ9
  subst hA9
  exact kRet_i hx hb hr hlocks hP hS dX3_temperature_18 rfl

set_option maxHeartbeats 4000000 in
set_option maxRecDepth 100000 in
/-- temperature_bad -/
theorem c_X3_temperature_bad (l : Launch) (D : va_G) (cI cZ cO cJ : ClassId) (y : Nat → Nat) (Lo Se Ef : Nat → Int32) (gp gi am li : Int32) (dl : Nat) (ck : Nat → Nat) (T Su Dm F Sp C Ho : Nat → Int32) (th : Int32) (v : Int32) (sz : Nat) (h : ¬ inR v (nI 0) (nI 5)) : kMi l yX3_temperature wsX3_temperature rmX3_temperature D (kT cI cZ cO cJ) [.ref (y 0), .int v] (wM cI cZ y Lo Se Ef gp gi am li dl ck T Su Dm F Sp C Ho th) (wM cI cZ y Lo Se Ef gp gi am li dl ck T Su Dm F Sp C Ho (nI 1)) sz (nI 0) := by
  refine kEnter (cc := cX3_temperature) (maxL := 2) (ret := some .int) (by decide +kernel) rfl (Nat.le_of_ble_eq_true rfl) ?_
  intro p e s m below meth c args hx hb hr hml hts hown hlocks hin hK hN A hA9 Q hQ9 hP hD hsz hS hA ls hl
  have hl : lv_has ls 2 [(0, .ref (y 0)), (1, .int v)] := hl
  have hi_X3 : ∀ w ∈ u_ws RX3 TX3 17, w ∈ wsX3_temperature := by decide +kernel
  obtain ⟨H, hH9⟩ : ∃ H, H = s.heap := ⟨_, rfl⟩
  rw [← hH9] at hP ⊢
  have hS : va_S A s.heap H [] := by rw [hH9]; exact va_S.rf
  refine lv_aload_n hx hb dX3_temperature_0 rfl (lv_at hl 0 rfl) ?_
  refine lv_iload_n hx hb dX3_temperature_1 rfl (lv_at hl 1 rfl) ?_
  refine kCallW_i (W1 := wM cI cZ y Lo Se Ef gp gi am li dl ck T Su Dm F Sp C Ho (nI 1)) hD hS hA rfl (va_runV (As := [.int v]) (rest := []) ⟨hx, hb, hml, hown, hts⟩ (c_X3_asks_bad l D cI cZ cO cJ y Lo Se Ef gp gi am li dl ck T Su Dm F Sp C Ho th v H.size h) (cwV (rm := rmX3_asks) 1 hts gX3_temperature_X3_asks rfl rfl rfl (by decide +kernel) ⟨Nat.le_of_ble_eq_true rfl, Nat.le_of_ble_eq_true rfl⟩) (kPreVW hK hN hP hD (va_recv hK hP (ci := 3) (q0 := 0) rfl rfl)) rfl rfl hl.1 rfl (lv_room (Nat.le_of_ble_eq_true rfl)) dX3_temperature_2 ⟨Nat.zero_le _, Nat.zero_le _⟩) (fun H locs hP hD hS => ?_)
  refine lv_if_eq (tgt := 17) hx hb dX3_temperature_5 (by decide) (fun _ => ?_) (fun c9 => absurd (by decide +kernel) c9)
  refine lv_iconst (v := nI 0) hx hb dX3_temperature_17 (by decide +kernel) ?_
  subst hQ9
  subst hA9
  exact kRet_i hx hb hr hlocks hP hS dX3_temperature_18 rfl

abbrev rmX3_demand : Room := { frames := 3, cells := 0, slots := 0, locals := 63 }
set_option maxHeartbeats 4000000 in
set_option maxRecDepth 100000 in
/-- demand_ok -/
theorem c_X3_demand_ok (l : Launch) (D : va_G) (cI cZ cO cJ : ClassId) (y : Nat → Nat) (Lo Se Ef : Nat → Int32) (gp gi am li : Int32) (dl : Nat) (ck : Nat → Nat) (T Su Dm F Sp C Ho : Nat → Int32) (th : Int32) (z : Nat) (sz : Nat) (hz : z < 6) : kMi l yX3_demand wsX3_demand rmX3_demand D (kT cI cZ cO cJ) [.ref (y 0), .int (nI z)] (wM cI cZ y Lo Se Ef gp gi am li dl ck T Su Dm F Sp C Ho th) (wM cI cZ y Lo Se Ef gp gi am li dl ck T Su Dm F Sp C Ho (nI 0)) sz (Dm z) := by
  refine kEnter (cc := cX3_demand) (maxL := 2) (ret := some .int) (by decide +kernel) rfl (Nat.le_of_ble_eq_true rfl) ?_
  intro p e s m below meth c args hx hb hr hml hts hown hlocks hin hK hN A hA9 Q hQ9 hP hD hsz hS hA ls hl
  have hl : lv_has ls 2 [(0, .ref (y 0)), (1, .int (nI z))] := hl
  have hi_X3 : ∀ w ∈ u_ws RX3 TX3 17, w ∈ wsX3_demand := by decide +kernel
  obtain ⟨H, hH9⟩ : ∃ H, H = s.heap := ⟨_, rfl⟩
  rw [← hH9] at hP ⊢
  have hS : va_S A s.heap H [] := by rw [hH9]; exact va_S.rf
  refine lv_aload_n hx hb dX3_demand_0 rfl (lv_at hl 0 rfl) ?_
  refine lv_iload_n hx hb dX3_demand_1 rfl (lv_at hl 1 rfl) ?_
  refine kCallW_i (W1 := wM cI cZ y Lo Se Ef gp gi am li dl ck T Su Dm F Sp C Ho (nI 0)) hD hS hA rfl (va_runV (As := [.int (nI z)]) (rest := []) ⟨hx, hb, hml, hown, hts⟩ (c_X3_asks_ok l D cI cZ cO cJ y Lo Se Ef gp gi am li dl ck T Su Dm F Sp C Ho th (nI z) H.size (inR_nI (by omega) (by omega) (by decide))) (cwV (rm := rmX3_asks) 1 hts gX3_demand_X3_asks rfl rfl rfl (by decide +kernel) ⟨Nat.le_of_ble_eq_true rfl, Nat.le_of_ble_eq_true rfl⟩) (kPreVW hK hN hP hD (va_recv hK hP (ci := 3) (q0 := 0) rfl rfl)) rfl rfl hl.1 rfl (lv_room (Nat.le_of_ble_eq_true rfl)) dX3_demand_2 ⟨Nat.zero_le _, Nat.zero_le _⟩) (fun H locs hP hD hS => ?_)
  refine lv_if_eq (tgt := 17) hx hb dX3_demand_5 (by decide) (fun c9 => absurd c9 (by decide +kernel)) (fun _ => ?_)
  refine lv_aload_n hx hb dX3_demand_8 rfl (lv_at hl 0 rfl) ?_
  refine va_get (D := D) (ci := 3) (v := .ref (y 7)) (C := RX3) (T := TX3) (N := 17) hx hb hts hi_X3 hown hK hP 0 rfl rfl 11 (by decide) (hts (.fieldLink RX3 44 "ColdaisleModel" "demands" "[I") (by decide +kernel)) (fun _ h9 => h9) rfl dX3_demand_9 ?_
  refine lv_iload_n hx hb dX3_demand_12 rfl (lv_at hl 1 rfl) ?_
  refine k_iald hx hb hK hP 7 0 rfl rfl (i := z) (by omega) (by decide) dX3_demand_13 ?_
  refine lv_goto (tgt := 18) hx hb dX3_demand_14 (by decide) ?_
  subst hQ9
  subst hA9
  exact kRet_i hx hb hr hlocks hP hS dX3_demand_18 rfl

set_option maxHeartbeats 4000000 in
set_option maxRecDepth 100000 in
/-- demand_bad -/
theorem c_X3_demand_bad (l : Launch) (D : va_G) (cI cZ cO cJ : ClassId) (y : Nat → Nat) (Lo Se Ef : Nat → Int32) (gp gi am li : Int32) (dl : Nat) (ck : Nat → Nat) (T Su Dm F Sp C Ho : Nat → Int32) (th : Int32) (v : Int32) (sz : Nat) (h : ¬ inR v (nI 0) (nI 5)) : kMi l yX3_demand wsX3_demand rmX3_demand D (kT cI cZ cO cJ) [.ref (y 0), .int v] (wM cI cZ y Lo Se Ef gp gi am li dl ck T Su Dm F Sp C Ho th) (wM cI cZ y Lo Se Ef gp gi am li dl ck T Su Dm F Sp C Ho (nI 1)) sz (nI 0) := by
  refine kEnter (cc := cX3_demand) (maxL := 2) (ret := some .int) (by decide +kernel) rfl (Nat.le_of_ble_eq_true rfl) ?_
  intro p e s m below meth c args hx hb hr hml hts hown hlocks hin hK hN A hA9 Q hQ9 hP hD hsz hS hA ls hl
  have hl : lv_has ls 2 [(0, .ref (y 0)), (1, .int v)] := hl
  have hi_X3 : ∀ w ∈ u_ws RX3 TX3 17, w ∈ wsX3_demand := by decide +kernel
  obtain ⟨H, hH9⟩ : ∃ H, H = s.heap := ⟨_, rfl⟩
  rw [← hH9] at hP ⊢
  have hS : va_S A s.heap H [] := by rw [hH9]; exact va_S.rf
  refine lv_aload_n hx hb dX3_demand_0 rfl (lv_at hl 0 rfl) ?_
  refine lv_iload_n hx hb dX3_demand_1 rfl (lv_at hl 1 rfl) ?_
  refine kCallW_i (W1 := wM cI cZ y Lo Se Ef gp gi am li dl ck T Su Dm F Sp C Ho (nI 1)) hD hS hA rfl (va_runV (As := [.int v]) (rest := []) ⟨hx, hb, hml, hown, hts⟩ (c_X3_asks_bad l D cI cZ cO cJ y Lo Se Ef gp gi am li dl ck T Su Dm F Sp C Ho th v H.size h) (cwV (rm := rmX3_asks) 1 hts gX3_demand_X3_asks rfl rfl rfl (by decide +kernel) ⟨Nat.le_of_ble_eq_true rfl, Nat.le_of_ble_eq_true rfl⟩) (kPreVW hK hN hP hD (va_recv hK hP (ci := 3) (q0 := 0) rfl rfl)) rfl rfl hl.1 rfl (lv_room (Nat.le_of_ble_eq_true rfl)) dX3_demand_2 ⟨Nat.zero_le _, Nat.zero_le _⟩) (fun H locs hP hD hS => ?_)
  refine lv_if_eq (tgt := 17) hx hb dX3_demand_5 (by decide) (fun _ => ?_) (fun c9 => absurd (by decide +kernel) c9)
  refine lv_iconst (v := nI 0) hx hb dX3_demand_17 (by decide +kernel) ?_
  subst hQ9
  subst hA9
  exact kRet_i hx hb hr hlocks hP hS dX3_demand_18 rfl

abbrev rmX3_errors : Room := { frames := 3, cells := 0, slots := 0, locals := 63 }
set_option maxHeartbeats 4000000 in
set_option maxRecDepth 100000 in
/-- errors_ok -/
theorem c_X3_errors_ok (l : Launch) (D : va_G) (cI cZ cO cJ : ClassId) (y : Nat → Nat) (Lo Se Ef : Nat → Int32) (gp gi am li : Int32) (dl : Nat) (ck : Nat → Nat) (T Su Dm F Sp C Ho : Nat → Int32) (th : Int32) (z : Nat) (sz : Nat) (hz : z < 6) : kMi l yX3_errors wsX3_errors rmX3_errors D (kT cI cZ cO cJ) [.ref (y 0), .int (nI z)] (wM cI cZ y Lo Se Ef gp gi am li dl ck T Su Dm F Sp C Ho th) (wM cI cZ y Lo Se Ef gp gi am li dl ck T Su Dm F Sp C Ho (nI 0)) sz (Su z) := by
  refine kEnter (cc := cX3_errors) (maxL := 2) (ret := some .int) (by decide +kernel) rfl (Nat.le_of_ble_eq_true rfl) ?_
  intro p e s m below meth c args hx hb hr hml hts hown hlocks hin hK hN A hA9 Q hQ9 hP hD hsz hS hA ls hl
  have hl : lv_has ls 2 [(0, .ref (y 0)), (1, .int (nI z))] := hl
  have hi_X3 : ∀ w ∈ u_ws RX3 TX3 17, w ∈ wsX3_errors := by decide +kernel
  obtain ⟨H, hH9⟩ : ∃ H, H = s.heap := ⟨_, rfl⟩
  rw [← hH9] at hP ⊢
  have hS : va_S A s.heap H [] := by rw [hH9]; exact va_S.rf
  refine lv_aload_n hx hb dX3_errors_0 rfl (lv_at hl 0 rfl) ?_
  refine lv_iload_n hx hb dX3_errors_1 rfl (lv_at hl 1 rfl) ?_
  refine kCallW_i (W1 := wM cI cZ y Lo Se Ef gp gi am li dl ck T Su Dm F Sp C Ho (nI 0)) hD hS hA rfl (va_runV (As := [.int (nI z)]) (rest := []) ⟨hx, hb, hml, hown, hts⟩ (c_X3_asks_ok l D cI cZ cO cJ y Lo Se Ef gp gi am li dl ck T Su Dm F Sp C Ho th (nI z) H.size (inR_nI (by omega) (by omega) (by decide))) (cwV (rm := rmX3_asks) 1 hts gX3_errors_X3_asks rfl rfl rfl (by decide +kernel) ⟨Nat.le_of_ble_eq_true rfl, Nat.le_of_ble_eq_true rfl⟩) (kPreVW hK hN hP hD (va_recv hK hP (ci := 3) (q0 := 0) rfl rfl)) rfl rfl hl.1 rfl (lv_room (Nat.le_of_ble_eq_true rfl)) dX3_errors_2 ⟨Nat.zero_le _, Nat.zero_le _⟩) (fun H locs hP hD hS => ?_)
  refine lv_if_eq (tgt := 17) hx hb dX3_errors_5 (by decide) (fun c9 => absurd c9 (by decide +kernel)) (fun _ => ?_)
  refine lv_aload_n hx hb dX3_errors_8 rfl (lv_at hl 0 rfl) ?_
  refine va_get (D := D) (ci := 3) (v := .ref (y 6)) (C := RX3) (T := TX3) (N := 17) hx hb hts hi_X3 hown hK hP 0 rfl rfl 10 (by decide) (hts (.fieldLink RX3 41 "ColdaisleModel" "sums" "[I") (by decide +kernel)) (fun _ h9 => h9) rfl dX3_errors_9 ?_
  refine lv_iload_n hx hb dX3_errors_12 rfl (lv_at hl 1 rfl) ?_
  refine k_iald hx hb hK hP 6 0 rfl rfl (i := z) (by omega) (by decide) dX3_errors_13 ?_
  refine lv_goto (tgt := 18) hx hb dX3_errors_14 (by decide) ?_
  subst hQ9
  subst hA9
  exact kRet_i hx hb hr hlocks hP hS dX3_errors_18 rfl

set_option maxHeartbeats 4000000 in
set_option maxRecDepth 100000 in
/-- errors_bad -/
theorem c_X3_errors_bad (l : Launch) (D : va_G) (cI cZ cO cJ : ClassId) (y : Nat → Nat) (Lo Se Ef : Nat → Int32) (gp gi am li : Int32) (dl : Nat) (ck : Nat → Nat) (T Su Dm F Sp C Ho : Nat → Int32) (th : Int32) (v : Int32) (sz : Nat) (h : ¬ inR v (nI 0) (nI 5)) : kMi l yX3_errors wsX3_errors rmX3_errors D (kT cI cZ cO cJ) [.ref (y 0), .int v] (wM cI cZ y Lo Se Ef gp gi am li dl ck T Su Dm F Sp C Ho th) (wM cI cZ y Lo Se Ef gp gi am li dl ck T Su Dm F Sp C Ho (nI 1)) sz (nI 0) := by
  refine kEnter (cc := cX3_errors) (maxL := 2) (ret := some .int) (by decide +kernel) rfl (Nat.le_of_ble_eq_true rfl) ?_
  intro p e s m below meth c args hx hb hr hml hts hown hlocks hin hK hN A hA9 Q hQ9 hP hD hsz hS hA ls hl
  have hl : lv_has ls 2 [(0, .ref (y 0)), (1, .int v)] := hl
  have hi_X3 : ∀ w ∈ u_ws RX3 TX3 17, w ∈ wsX3_errors := by decide +kernel
  obtain ⟨H, hH9⟩ : ∃ H, H = s.heap := ⟨_, rfl⟩
  rw [← hH9] at hP ⊢
  have hS : va_S A s.heap H [] := by rw [hH9]; exact va_S.rf
  refine lv_aload_n hx hb dX3_errors_0 rfl (lv_at hl 0 rfl) ?_
  refine lv_iload_n hx hb dX3_errors_1 rfl (lv_at hl 1 rfl) ?_
  refine kCallW_i (W1 := wM cI cZ y Lo Se Ef gp gi am li dl ck T Su Dm F Sp C Ho (nI 1)) hD hS hA rfl (va_runV (As := [.int v]) (rest := []) ⟨hx, hb, hml, hown, hts⟩ (c_X3_asks_bad l D cI cZ cO cJ y Lo Se Ef gp gi am li dl ck T Su Dm F Sp C Ho th v H.size h) (cwV (rm := rmX3_asks) 1 hts gX3_errors_X3_asks rfl rfl rfl (by decide +kernel) ⟨Nat.le_of_ble_eq_true rfl, Nat.le_of_ble_eq_true rfl⟩) (kPreVW hK hN hP hD (va_recv hK hP (ci := 3) (q0 := 0) rfl rfl)) rfl rfl hl.1 rfl (lv_room (Nat.le_of_ble_eq_true rfl)) dX3_errors_2 ⟨Nat.zero_le _, Nat.zero_le _⟩) (fun H locs hP hD hS => ?_)
  refine lv_if_eq (tgt := 17) hx hb dX3_errors_5 (by decide) (fun _ => ?_) (fun c9 => absurd (by decide +kernel) c9)
  refine lv_iconst (v := nI 0) hx hb dX3_errors_17 (by decide +kernel) ?_
  subst hQ9
  subst hA9
  exact kRet_i hx hb hr hlocks hP hS dX3_errors_18 rfl

abbrev rmX3_hotMinutes : Room := { frames := 3, cells := 0, slots := 0, locals := 63 }
set_option maxHeartbeats 4000000 in
set_option maxRecDepth 100000 in
/-- hotMinutes_ok -/
theorem c_X3_hotMinutes_ok (l : Launch) (D : va_G) (cI cZ cO cJ : ClassId) (y : Nat → Nat) (Lo Se Ef : Nat → Int32) (gp gi am li : Int32) (dl : Nat) (ck : Nat → Nat) (T Su Dm F Sp C Ho : Nat → Int32) (th : Int32) (z : Nat) (sz : Nat) (hz : z < 6) : kMi l yX3_hotMinutes wsX3_hotMinutes rmX3_hotMinutes D (kT cI cZ cO cJ) [.ref (y 0), .int (nI z)] (wM cI cZ y Lo Se Ef gp gi am li dl ck T Su Dm F Sp C Ho th) (wM cI cZ y Lo Se Ef gp gi am li dl ck T Su Dm F Sp C Ho (nI 0)) sz (Ho z) := by
  refine kEnter (cc := cX3_hotMinutes) (maxL := 2) (ret := some .int) (by decide +kernel) rfl (Nat.le_of_ble_eq_true rfl) ?_
  intro p e s m below meth c args hx hb hr hml hts hown hlocks hin hK hN A hA9 Q hQ9 hP hD hsz hS hA ls hl
  have hl : lv_has ls 2 [(0, .ref (y 0)), (1, .int (nI z))] := hl
  have hi_X3 : ∀ w ∈ u_ws RX3 TX3 17, w ∈ wsX3_hotMinutes := by decide +kernel
  obtain ⟨H, hH9⟩ : ∃ H, H = s.heap := ⟨_, rfl⟩
  rw [← hH9] at hP ⊢
  have hS : va_S A s.heap H [] := by rw [hH9]; exact va_S.rf
  refine lv_aload_n hx hb dX3_hotMinutes_0 rfl (lv_at hl 0 rfl) ?_
  refine lv_iload_n hx hb dX3_hotMinutes_1 rfl (lv_at hl 1 rfl) ?_
  refine kCallW_i (W1 := wM cI cZ y Lo Se Ef gp gi am li dl ck T Su Dm F Sp C Ho (nI 0)) hD hS hA rfl (va_runV (As := [.int (nI z)]) (rest := []) ⟨hx, hb, hml, hown, hts⟩ (c_X3_asks_ok l D cI cZ cO cJ y Lo Se Ef gp gi am li dl ck T Su Dm F Sp C Ho th (nI z) H.size (inR_nI (by omega) (by omega) (by decide))) (cwV (rm := rmX3_asks) 1 hts gX3_hotMinutes_X3_asks rfl rfl rfl (by decide +kernel) ⟨Nat.le_of_ble_eq_true rfl, Nat.le_of_ble_eq_true rfl⟩) (kPreVW hK hN hP hD (va_recv hK hP (ci := 3) (q0 := 0) rfl rfl)) rfl rfl hl.1 rfl (lv_room (Nat.le_of_ble_eq_true rfl)) dX3_hotMinutes_2 ⟨Nat.zero_le _, Nat.zero_le _⟩) (fun H locs hP hD hS => ?_)
  refine lv_if_eq (tgt := 17) hx hb dX3_hotMinutes_5 (by decide) (fun c9 => absurd c9 (by decide +kernel)) (fun _ => ?_)
  refine lv_aload_n hx hb dX3_hotMinutes_8 rfl (lv_at hl 0 rfl) ?_
  refine va_get (D := D) (ci := 3) (v := .ref (y 11)) (C := RX3) (T := TX3) (N := 17) hx hb hts hi_X3 hown hK hP 0 rfl rfl 15 (by decide) (hts (.fieldLink RX3 57 "ColdaisleModel" "hots" "[I") (by decide +kernel)) (fun _ h9 => h9) rfl dX3_hotMinutes_9 ?_
  refine lv_iload_n hx hb dX3_hotMinutes_12 rfl (lv_at hl 1 rfl) ?_
  refine k_iald hx hb hK hP 11 0 rfl rfl (i := z) (by omega) (by decide) dX3_hotMinutes_13 ?_
  refine lv_goto (tgt := 18) hx hb dX3_hotMinutes_14 (by decide) ?_
  subst hQ9
  subst hA9
  exact kRet_i hx hb hr hlocks hP hS dX3_hotMinutes_18 rfl

set_option maxHeartbeats 4000000 in
set_option maxRecDepth 100000 in
/-- hotMinutes_bad -/
theorem c_X3_hotMinutes_bad (l : Launch) (D : va_G) (cI cZ cO cJ : ClassId) (y : Nat → Nat) (Lo Se Ef : Nat → Int32) (gp gi am li : Int32) (dl : Nat) (ck : Nat → Nat) (T Su Dm F Sp C Ho : Nat → Int32) (th : Int32) (v : Int32) (sz : Nat) (h : ¬ inR v (nI 0) (nI 5)) : kMi l yX3_hotMinutes wsX3_hotMinutes rmX3_hotMinutes D (kT cI cZ cO cJ) [.ref (y 0), .int v] (wM cI cZ y Lo Se Ef gp gi am li dl ck T Su Dm F Sp C Ho th) (wM cI cZ y Lo Se Ef gp gi am li dl ck T Su Dm F Sp C Ho (nI 1)) sz (nI 0) := by
  refine kEnter (cc := cX3_hotMinutes) (maxL := 2) (ret := some .int) (by decide +kernel) rfl (Nat.le_of_ble_eq_true rfl) ?_
  intro p e s m below meth c args hx hb hr hml hts hown hlocks hin hK hN A hA9 Q hQ9 hP hD hsz hS hA ls hl
  have hl : lv_has ls 2 [(0, .ref (y 0)), (1, .int v)] := hl
  have hi_X3 : ∀ w ∈ u_ws RX3 TX3 17, w ∈ wsX3_hotMinutes := by decide +kernel
  obtain ⟨H, hH9⟩ : ∃ H, H = s.heap := ⟨_, rfl⟩
  rw [← hH9] at hP ⊢
  have hS : va_S A s.heap H [] := by rw [hH9]; exact va_S.rf
  refine lv_aload_n hx hb dX3_hotMinutes_0 rfl (lv_at hl 0 rfl) ?_
  refine lv_iload_n hx hb dX3_hotMinutes_1 rfl (lv_at hl 1 rfl) ?_
  refine kCallW_i (W1 := wM cI cZ y Lo Se Ef gp gi am li dl ck T Su Dm F Sp C Ho (nI 1)) hD hS hA rfl (va_runV (As := [.int v]) (rest := []) ⟨hx, hb, hml, hown, hts⟩ (c_X3_asks_bad l D cI cZ cO cJ y Lo Se Ef gp gi am li dl ck T Su Dm F Sp C Ho th v H.size h) (cwV (rm := rmX3_asks) 1 hts gX3_hotMinutes_X3_asks rfl rfl rfl (by decide +kernel) ⟨Nat.le_of_ble_eq_true rfl, Nat.le_of_ble_eq_true rfl⟩) (kPreVW hK hN hP hD (va_recv hK hP (ci := 3) (q0 := 0) rfl rfl)) rfl rfl hl.1 rfl (lv_room (Nat.le_of_ble_eq_true rfl)) dX3_hotMinutes_2 ⟨Nat.zero_le _, Nat.zero_le _⟩) (fun H locs hP hD hS => ?_)
  refine lv_if_eq (tgt := 17) hx hb dX3_hotMinutes_5 (by decide) (fun _ => ?_) (fun c9 => absurd (by decide +kernel) c9)
  refine lv_iconst (v := nI 0) hx hb dX3_hotMinutes_17 (by decide +kernel) ?_
  subst hQ9
  subst hA9
  exact kRet_i hx hb hr hlocks hP hS dX3_hotMinutes_18 rfl

abbrev rmX3_hottest : Room := { frames := 0, cells := 0, slots := 0, locals := 0 }
set_option maxHeartbeats 4000000 in
set_option maxRecDepth 100000 in
/-- hottest -/
theorem c_X3_hottest (l : Launch) (D : va_G) (cI cZ cO cJ : ClassId) (y : Nat → Nat) (Lo Se Ef : Nat → Int32) (gp gi am li : Int32) (dl : Nat) (ck : Nat → Nat) (T Su Dm F Sp C Ho : Nat → Int32) (th : Int32) (sz : Nat) : kMi l yX3_hottest wsX3_hottest rmX3_hottest D (kT cI cZ cO cJ) [.ref (y 0)] (wM cI cZ y Lo Se Ef gp gi am li dl ck T Su Dm F Sp C Ho th) (wM cI cZ y Lo Se Ef gp gi am li dl ck T Su Dm F Sp C Ho (nI 0)) sz (nI (mBest T 5)) := by
  refine kEnter (cc := cX3_hottest) (maxL := 3) (ret := some .int) (by decide +kernel) rfl (Nat.le_of_ble_eq_true rfl) ?_
  intro p e s m below meth c args hx hb hr hml hts hown hlocks hin hK hN A hA9 Q hQ9 hP hD hsz hS hA ls hl
  have hl : lv_has ls 3 [(0, .ref (y 0))] := hl
  have hi_X3 : ∀ w ∈ u_ws RX3 TX3 17, w ∈ wsX3_hottest := by decide +kernel
  obtain ⟨H, hH9⟩ : ∃ H, H = s.heap := ⟨_, rfl⟩
  rw [← hH9] at hP ⊢
  have hS : va_S A s.heap H [] := by rw [hH9]; exact va_S.rf
  refine lv_aload_n hx hb dX3_hottest_0 rfl (lv_at hl 0 rfl) ?_
  refine lv_iconst (v := nI 0) hx hb dX3_hottest_1 (by decide +kernel) ?_
  refine va_put (D := D) (ci := 3) (v := .int (nI 0)) (ty := tyX3 16) (C := RX3) (T := TX3) (N := 17) hx hb hts hi_X3 tyX3 tyX3_ok nmX3 hown hK hP hD hS 0 rfl rfl 16 (by decide) (hts (.fieldLink RX3 60 "ColdaisleModel" "thrown" "I") (by decide +kernel)) (fun _ h9 => h9) rfl (by decide +kernel) rfl rfl (Nat.le_of_ble_eq_true rfl) dX3_hottest_2 (fun H locs hP hD hS => ?_)
  have hP : va_P D vwCl (wM cI cZ y Lo Se Ef gp gi am li dl ck T Su Dm F Sp C Ho (nI 0)) H := hP
  have hD : va_D A (wM cI cZ y Lo Se Ef gp gi am li dl ck T Su Dm F Sp C Ho (nI 0)) := hD
  refine lv_iconst (v := nI 0) hx hb dX3_hottest_5 (by decide +kernel) ?_
  refine lv_istore_n (lv' := [(1, .int (nI 0)), (0, .ref (y 0))]) hx hb dX3_hottest_6 rfl hl (by decide) rfl (fun ls hl => ?_)
  refine lv_iconst (v := nI 1) hx hb dX3_hottest_7 (by decide +kernel) ?_
  refine lv_istore_n (lv' := [(2, .int (nI 1)), (1, .int (nI 0)), (0, .ref (y 0))]) hx hb dX3_hottest_8 rfl hl (by decide) rfl (fun ls hl => ?_)
  have lp : ∀ (n z : Nat), z + n = 5 → ∀ (H : Heap) (locs : List Loc), va_P D vwCl (wM cI cZ y Lo Se Ef gp gi am li dl ck T Su Dm F Sp C Ho (nI 0)) H → va_D A (wM cI cZ y Lo Se Ef gp gi am li dl ck T Su Dm F Sp C Ho (nI 0)) → va_S A s.heap H locs → ∀ ls : Array Slot, lv_has ls 3 [(0, .ref (y 0)), (1, .int (nI (mBest T z))), (2, .int (nI (z + 1)))] → W p l e rmX3_hottest s m args below meth c H locs 0 0 Q (F0 m 9 ls []) := by
    intro n
    induction n with
    | zero =>
      intro z hz H locs hP hD hS ls hl
      have hz9 : z = 5 := by omega
      subst hz9
      refine lv_iload_n hx hb dX3_hottest_9 rfl (lv_at hl 2 rfl) ?_
      refine lv_bipush (v := nI 6) hx hb dX3_hottest_10 (by decide +kernel) ?_
      refine lv_icmp_ge (tgt := 42) hx hb dX3_hottest_12 (by decide) (fun _ => ?_) (fun c9 => absurd (by decide +kernel) c9)
      refine lv_iload_n hx hb dX3_hottest_42 rfl (lv_at hl 1 rfl) ?_
      subst hQ9
      subst hA9
      exact kRet_i hx hb hr hlocks hP hS dX3_hottest_43 rfl
    | succ n ih =>
      intro z hz H locs hP hD hS ls hl
      have hzb : z < 5 := by omega
      have hb9 := mBest_le T z
      refine lv_iload_n hx hb dX3_hottest_9 rfl (lv_at hl 2 rfl) ?_
      refine lv_bipush (v := nI 6) hx hb dX3_hottest_10 (by decide +kernel) ?_
      refine lv_icmp_ge (tgt := 42) hx hb dX3_hottest_12 (by decide) (fun c9 => absurd c9 (nI_ge (by omega) (by decide))) (fun _ => ?_)
      refine lv_aload_n hx hb dX3_hottest_15 rfl (lv_at hl 0 rfl) ?_
      refine va_get (D := D) (ci := 3) (v := .ref (y 5)) (C := RX3) (T := TX3) (N := 17) hx hb hts hi_X3 hown hK hP 0 rfl rfl 9 (by decide) (hts (.fieldLink RX3 38 "ColdaisleModel" "temperatures" "[I") (by decide +kernel)) (fun _ h9 => h9) rfl dX3_hottest_16 ?_
      refine lv_iload_n hx hb dX3_hottest_19 rfl (lv_at hl 2 rfl) ?_
      refine k_iald hx hb hK hP 5 0 rfl rfl (i := z + 1) (by omega) (by decide) dX3_hottest_20 ?_
      refine lv_aload_n hx hb dX3_hottest_21 rfl (lv_at hl 0 rfl) ?_
      refine va_get (D := D) (ci := 3) (v := .ref (y 5)) (C := RX3) (T := TX3) (N := 17) hx hb hts hi_X3 hown hK hP 0 rfl rfl 9 (by decide) (hts (.fieldLink RX3 38 "ColdaisleModel" "temperatures" "[I") (by decide +kernel)) (fun _ h9 => h9) rfl dX3_hottest_22 ?_
      refine lv_iload_n hx hb dX3_hottest_25 rfl (lv_at hl 1 rfl) ?_
      refine k_iald hx hb hK hP 5 0 rfl rfl (i := mBest T z) (by omega) (by decide) dX3_hottest_26 ?_
      refine lv_icmp_le (tgt := 34) hx hb dX3_hottest_27 (by decide) (fun c1 => ?_) (fun c1 => ?_)
      · refine lv_iload_n hx hb dX3_hottest_34 rfl (lv_at hl 1 rfl) ?_
        refine lv_istore_n (lv' := [(1, .int (nI (mBest T z))), (0, .ref (y 0)), (2, .int (nI (z + 1)))]) hx hb dX3_hottest_35 rfl hl (by decide) rfl (fun ls hl => ?_)
        refine lv_iinc (v := nI (z + 1 + 1)) (lv' := [(2, .int (nI (z + 1 + 1))), (1, .int (nI (mBest T z))), (0, .ref (y 0))]) hx hb dX3_hottest_36 hl (k := 2) rfl (k_inc _) (by decide) rfl (fun ls hl => ?_)
        refine lv_goto (tgt := 9) hx hb dX3_hottest_39 (by decide) ?_
        exact ih (z + 1) (by omega) H locs hP hD hS ls (by rw [mBest_t T z c1]; exact (lv_sub hl [2, 1, 0] rfl))
      · refine lv_iload_n hx hb dX3_hottest_30 rfl (lv_at hl 2 rfl) ?_
        refine lv_goto (tgt := 35) hx hb dX3_hottest_31 (by decide) ?_
        refine lv_istore_n (lv' := [(1, .int (nI (z + 1))), (0, .ref (y 0)), (2, .int (nI (z + 1)))]) hx hb dX3_hottest_35 rfl hl (by decide) rfl (fun ls hl => ?_)
        refine lv_iinc (v := nI (z + 1 + 1)) (lv' := [(2, .int (nI (z + 1 + 1))), (1, .int (nI (z + 1))), (0, .ref (y 0))]) hx hb dX3_hottest_36 hl (k := 2) rfl (k_inc _) (by decide) rfl (fun ls hl => ?_)
        refine lv_goto (tgt := 9) hx hb dX3_hottest_39 (by decide) ?_
        exact ih (z + 1) (by omega) H locs hP hD hS ls (by rw [mBest_f T z c1]; exact (lv_sub hl [2, 1, 0] rfl))
  exact lp 5 0 rfl H locs hP hD hS ls (lv_sub hl [2, 1, 0] rfl)

