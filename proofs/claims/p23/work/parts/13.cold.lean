abbrev rmX0_stopFan : Room := { frames := 0, cells := 0, slots := 0, locals := 0 }
set_option maxHeartbeats 4000000 in
set_option maxRecDepth 100000 in
/-- stopFan -/
theorem c_X0_stopFan (l : Launch) (D : va_G) (cI cZ cO cJ : ClassId) (a b : Nat → Nat) (T E Dm F S : Nat → Int32) (C : Nat → Nat → Int32) (la : Nat) (Lo Se : Nat → Int32) (Ef : Nat → Nat → Int32) (gp gi am li : Int32) (dl : Nat) (f : Nat) (sz : Nat) (hf : f < 8) : kMv l yX0_stopFan wsX0_stopFan rmX0_stopFan D (kT cI cZ cO cJ) [.ref (a 0), .int (nI f)] (wH cI cZ cO a b T E Dm F S C la Lo Se Ef gp gi am li dl) (wH cI cZ cO a b T E Dm (upd F f (nI 1)) (upd S f (nI 0)) C la Lo Se Ef gp gi am li dl) sz := by
  refine kEnter (cc := cX0_stopFan) (maxL := 2) (ret := none) (by decide +kernel) rfl (Nat.le_of_ble_eq_true rfl) ?_
  intro p e s m below meth c args hx hb hr hml hts hown hlocks hin hK hN A hA9 Q hQ9 hP hD hsz hS hA ls hl
  have hl : lv_has ls 2 [(0, .ref (a 0)), (1, .int (nI f))] := hl
  have hi_X0 : ∀ w ∈ u_ws RX0 TX0 7, w ∈ wsX0_stopFan := by decide +kernel
  obtain ⟨H, hH9⟩ : ∃ H, H = s.heap := ⟨_, rfl⟩
  rw [← hH9] at hP ⊢
  have hS : va_S A s.heap H [] := by rw [hH9]; exact va_S.rf
  refine lv_aload_n hx hb dX0_stopFan_0 rfl (lv_at hl 0 rfl) ?_
  refine va_get (D := D) (ci := 0) (v := .ref (a 4)) (C := RX0) (T := TX0) (N := 7) hx hb hts hi_X0 hown hK hP 0 rfl rfl 3 (by decide) (hts (.fieldLink RX0 21 "Coldaisle$Hall" "failed" "[Z") (by decide +kernel)) (fun _ h9 => h9) rfl dX0_stopFan_1 ?_
  refine lv_iload_n hx hb dX0_stopFan_4 rfl (lv_at hl 1 rfl) ?_
  refine lv_iconst (v := nI 1) hx hb dX0_stopFan_5 (by decide +kernel) ?_
  refine k_zast hx hb hK hP hD hS 4 1 rfl rfl (i := f) (x := nI 1) (x' := nI 1) (by omega) (by decide) (by decide +kernel) dX0_stopFan_6 (fun H locs hP hD hS => ?_)
  have hP : va_P D vwCl (wH cI cZ cO a b T E Dm (upd F f (nI 1)) S C la Lo Se Ef gp gi am li dl) H := hP
  have hD : va_D A (wH cI cZ cO a b T E Dm (upd F f (nI 1)) S C la Lo Se Ef gp gi am li dl) := hD
  refine lv_aload_n hx hb dX0_stopFan_7 rfl (lv_at hl 0 rfl) ?_
  refine va_get (D := D) (ci := 0) (v := .ref (a 5)) (C := RX0) (T := TX0) (N := 7) hx hb hts hi_X0 hown hK hP 0 rfl rfl 4 (by decide) (hts (.fieldLink RX0 25 "Coldaisle$Hall" "speed" "[I") (by decide +kernel)) (fun _ h9 => h9) rfl dX0_stopFan_8 ?_
  refine lv_iload_n hx hb dX0_stopFan_11 rfl (lv_at hl 1 rfl) ?_
  refine lv_iconst (v := nI 0) hx hb dX0_stopFan_12 (by decide +kernel) ?_
  refine k_iast hx hb hK hP hD hS 5 0 rfl rfl (i := f) (x := nI 0) (by omega) (by decide) dX0_stopFan_13 (fun H locs hP hD hS => ?_)
  have hP : va_P D vwCl (wH cI cZ cO a b T E Dm (upd F f (nI 1)) (upd S f (nI 0)) C la Lo Se Ef gp gi am li dl) H := hP
  have hD : va_D A (wH cI cZ cO a b T E Dm (upd F f (nI 1)) (upd S f (nI 0)) C la Lo Se Ef gp gi am li dl) := hD
  subst hQ9
  subst hA9
  exact kRet_v hx hb hr hlocks hP hS dX0_stopFan_14

abbrev rmX0_countRunning : Room := { frames := 0, cells := 0, slots := 0, locals := 0 }
set_option maxHeartbeats 4000000 in
set_option maxRecDepth 100000 in
/-- countRunning -/
theorem c_X0_countRunning (l : Launch) (D : va_G) (cI cZ cO cJ : ClassId) (a b : Nat → Nat) (T E Dm F S : Nat → Int32) (C : Nat → Nat → Int32) (la : Nat) (Lo Se : Nat → Int32) (Ef : Nat → Nat → Int32) (gp gi am li : Int32) (dl : Nat) (sz : Nat) : kMi l yX0_countRunning wsX0_countRunning rmX0_countRunning D (kT cI cZ cO cJ) [.ref (a 0)] (wH cI cZ cO a b T E Dm F S C la Lo Se Ef gp gi am li dl) (wH cI cZ cO a b T E Dm F S C la Lo Se Ef gp gi am li dl) sz (mCnt F 8) := by
  refine kEnter (cc := cX0_countRunning) (maxL := 3) (ret := some .int) (by decide +kernel) rfl (Nat.le_of_ble_eq_true rfl) ?_
  intro p e s m below meth c args hx hb hr hml hts hown hlocks hin hK hN A hA9 Q hQ9 hP hD hsz hS hA ls hl
  have hl : lv_has ls 3 [(0, .ref (a 0))] := hl
  have hi_X0 : ∀ w ∈ u_ws RX0 TX0 7, w ∈ wsX0_countRunning := by decide +kernel
  obtain ⟨H, hH9⟩ : ∃ H, H = s.heap := ⟨_, rfl⟩
  rw [← hH9] at hP ⊢
  have hS : va_S A s.heap H [] := by rw [hH9]; exact va_S.rf
  refine lv_iconst (v := nI 0) hx hb dX0_countRunning_0 (by decide +kernel) ?_
  refine lv_istore_n (lv' := [(1, .int (nI 0)), (0, .ref (a 0))]) hx hb dX0_countRunning_1 rfl hl (by decide) rfl (fun ls hl => ?_)
  refine lv_iconst (v := nI 0) hx hb dX0_countRunning_2 (by decide +kernel) ?_
  refine lv_istore_n (lv' := [(2, .int (nI 0)), (1, .int (nI 0)), (0, .ref (a 0))]) hx hb dX0_countRunning_3 rfl hl (by decide) rfl (fun ls hl => ?_)
  have lp : ∀ (n z : Nat), z + n = 8 → ∀ (H : Heap) (locs : List Loc), va_P D vwCl (wH cI cZ cO a b T E Dm F S C la Lo Se Ef gp gi am li dl) H → va_D A (wH cI cZ cO a b T E Dm F S C la Lo Se Ef gp gi am li dl) → va_S A s.heap H locs → ∀ ls : Array Slot, lv_has ls 3 [(0, .ref (a 0)), (1, .int (mCnt F z)), (2, .int (nI z))] → W p l e rmX0_countRunning s m args below meth c H locs 0 0 Q (F0 m 4 ls []) := by
    intro n
    induction n with
    | zero =>
      intro z hz H locs hP hD hS ls hl
      have hz9 : z = 8 := by omega
      subst hz9
      refine lv_iload_n hx hb dX0_countRunning_4 rfl (lv_at hl 2 rfl) ?_
      refine lv_bipush (v := nI 8) hx hb dX0_countRunning_5 (by decide +kernel) ?_
      refine lv_icmp_ge (tgt := 28) hx hb dX0_countRunning_7 (by decide) (fun _ => ?_) (fun c9 => absurd (nI_le (Nat.le_refl 8) (by decide)) c9)
      refine lv_iload_n hx hb dX0_countRunning_28 rfl (lv_at hl 1 rfl) ?_
      subst hQ9
      subst hA9
      exact kRet_i hx hb hr hlocks hP hS dX0_countRunning_29 rfl
    | succ n ih =>
      intro z hz H locs hP hD hS ls hl
      have hzb : z < 8 := by omega
      refine lv_iload_n hx hb dX0_countRunning_4 rfl (lv_at hl 2 rfl) ?_
      refine lv_bipush (v := nI 8) hx hb dX0_countRunning_5 (by decide +kernel) ?_
      refine lv_icmp_ge (tgt := 28) hx hb dX0_countRunning_7 (by decide) (fun c9 => absurd c9 (nI_ge hzb (by decide))) (fun _ => ?_)
      refine lv_aload_n hx hb dX0_countRunning_10 rfl (lv_at hl 0 rfl) ?_
      refine va_get (D := D) (ci := 0) (v := .ref (a 4)) (C := RX0) (T := TX0) (N := 7) hx hb hts hi_X0 hown hK hP 0 rfl rfl 3 (by decide) (hts (.fieldLink RX0 21 "Coldaisle$Hall" "failed" "[Z") (by decide +kernel)) (fun _ h9 => h9) rfl dX0_countRunning_11 ?_
      refine lv_iload_n hx hb dX0_countRunning_14 rfl (lv_at hl 2 rfl) ?_
      refine k_zald hx hb hK hP 4 1 rfl rfl (i := z) (by omega) (by decide) dX0_countRunning_15 ?_
      refine lv_if_ne (tgt := 22) hx hb dX0_countRunning_16 (by decide) (fun c1 => ?_) (fun c1 => ?_)
      · refine lv_iinc (v := nI (z + 1)) (lv' := [(2, .int (nI (z + 1))), (0, .ref (a 0)), (1, .int (mCnt F z))]) hx hb dX0_countRunning_22 hl (k := 2) rfl (k_inc _) (by decide) rfl (fun ls hl => ?_)
        refine lv_goto (tgt := 4) hx hb dX0_countRunning_25 (by decide) ?_
        exact ih (z + 1) (by omega) H locs hP hD hS ls (by rw [mCnt_f F z c1]; exact (lv_sub hl [1, 2, 0] rfl))
      · refine lv_iinc (v := (mCnt F z) + 1) (lv' := [(1, .int ((mCnt F z) + 1)), (0, .ref (a 0)), (2, .int (nI z))]) hx hb dX0_countRunning_19 hl (k := 1) rfl rfl (by decide) rfl (fun ls hl => ?_)
        refine lv_iinc (v := nI (z + 1)) (lv' := [(2, .int (nI (z + 1))), (1, .int ((mCnt F z) + 1)), (0, .ref (a 0))]) hx hb dX0_countRunning_22 hl (k := 2) rfl (k_inc _) (by decide) rfl (fun ls hl => ?_)
        refine lv_goto (tgt := 4) hx hb dX0_countRunning_25 (by decide) ?_
        exact ih (z + 1) (by omega) H locs hP hD hS ls (by rw [mCnt_t F z c1]; exact (lv_sub hl [2, 1, 0] rfl))
  exact lp 8 0 rfl H [] hP hD hS ls (lv_sub hl [2, 1, 0] rfl)

abbrev rmX2_requireWithin : Room := { frames := 0, cells := 0, slots := 0, locals := 0 }
set_option maxHeartbeats 4000000 in
set_option maxRecDepth 100000 in
/-- requireWithin lets pass -/
theorem c_X2_requireWithin (l : Launch) (D : va_G) (cI cZ cO cJ : ClassId) (v lo hi : Int32) (sz : Nat) (h1 : ¬ v < lo) (h2 : v ≤ hi) : kMv l yX2_requireWithin wsX2_requireWithin rmX2_requireWithin D (kT cI cZ cO cJ) [.int v, .int lo, .int hi] ([]) ([]) sz := by
  refine kEnter (cc := cX2_requireWithin) (maxL := 3) (ret := none) (by decide +kernel) rfl (Nat.le_of_ble_eq_true rfl) ?_
  intro p e s m below meth c args hx hb hr hml hts hown hlocks hin hK hN A hA9 Q hQ9 hP hD hsz hS hA ls hl
  have hl : lv_has ls 3 [(0, .int v), (1, .int lo), (2, .int hi)] := hl
  obtain ⟨H, hH9⟩ : ∃ H, H = s.heap := ⟨_, rfl⟩
  rw [← hH9] at hP ⊢
  have hS : va_S A s.heap H [] := by rw [hH9]; exact va_S.rf
  refine lv_iload_n hx hb dX2_requireWithin_0 rfl (lv_at hl 0 rfl) ?_
  refine lv_iload_n hx hb dX2_requireWithin_1 rfl (lv_at hl 1 rfl) ?_
  refine lv_icmp_lt (tgt := 10) hx hb dX2_requireWithin_2 (by decide) (fun c9 => absurd c9 h1) (fun _ => ?_)
  refine lv_iload_n hx hb dX2_requireWithin_5 rfl (lv_at hl 0 rfl) ?_
  refine lv_iload_n hx hb dX2_requireWithin_6 rfl (lv_at hl 2 rfl) ?_
  refine lv_icmp_le (tgt := 20) hx hb dX2_requireWithin_7 (by decide) (fun _ => ?_) (fun c9 => absurd h2 c9)
  subst hQ9
  subst hA9
  exact kRet_v hx hb hr hlocks hP hS dX2_requireWithin_20

abbrev rmX2_requireZone : Room := { frames := 1, cells := 0, slots := 0, locals := 22 }
set_option maxHeartbeats 4000000 in
set_option maxRecDepth 100000 in
/-- requireZone lets pass -/
theorem c_X2_requireZone (l : Launch) (D : va_G) (cI cZ cO cJ : ClassId) (v : Int32) (sz : Nat) (h1 : ¬ v < nI 0) (h2 : v ≤ nI 5) : kMv l yX2_requireZone wsX2_requireZone rmX2_requireZone D (kT cI cZ cO cJ) [.int v] ([]) ([]) sz := by
  refine kEnter (cc := cX2_requireZone) (maxL := 1) (ret := none) (by decide +kernel) rfl (Nat.le_of_ble_eq_true rfl) ?_
  intro p e s m below meth c args hx hb hr hml hts hown hlocks hin hK hN A hA9 Q hQ9 hP hD hsz hS hA ls hl
  have hl : lv_has ls 1 [(0, .int v)] := hl
  obtain ⟨H, hH9⟩ : ∃ H, H = s.heap := ⟨_, rfl⟩
  rw [← hH9] at hP ⊢
  have hS : va_S A s.heap H [] := by rw [hH9]; exact va_S.rf
  refine lv_iload_n hx hb dX2_requireZone_0 rfl (lv_at hl 0 rfl) ?_
  refine lv_iconst (v := nI 0) hx hb dX2_requireZone_1 (by decide +kernel) ?_
  refine lv_iconst (v := nI 5) hx hb dX2_requireZone_2 (by decide +kernel) ?_
  refine kCall_v (W0 := []) (W1 := []) hP hD hS hA [] rfl rfl (va_runS (As := [.int v, .int (nI 0), .int (nI 5)]) (rest := []) ⟨hx, hb, hml, hown, hts⟩ (c_X2_requireWithin l D cI cZ cO cJ v (nI 0) (nI 5) H.size h1 h2) (va_cwS (rm := rmX2_requireWithin) 3 hts gX2_requireZone_X2_requireWithin rfl rfl rfl (by decide +kernel) ⟨Nat.le_of_ble_eq_true rfl, Nat.le_of_ble_eq_true rfl⟩) (kPreS hK hN hP hD [] rfl rfl) rfl rfl hl.1 rfl (lv_room (Nat.le_of_ble_eq_true rfl)) dX2_requireZone_3 ⟨Nat.zero_le _, Nat.zero_le _⟩) (fun H locs hP hD hS => ?_)
  have hP : va_P D vwCl ([]) H := hP
  have hD : va_D A ([]) := hD
  subst hQ9
  subst hA9
  exact kRet_v hx hb hr hlocks hP hS dX2_requireZone_6

abbrev rmX2_requireFan : Room := { frames := 1, cells := 0, slots := 0, locals := 22 }
set_option maxHeartbeats 4000000 in
set_option maxRecDepth 100000 in
/-- requireFan lets pass -/
theorem c_X2_requireFan (l : Launch) (D : va_G) (cI cZ cO cJ : ClassId) (v : Int32) (sz : Nat) (h1 : ¬ v < nI 0) (h2 : v ≤ nI 7) : kMv l yX2_requireFan wsX2_requireFan rmX2_requireFan D (kT cI cZ cO cJ) [.int v] ([]) ([]) sz := by
  refine kEnter (cc := cX2_requireFan) (maxL := 1) (ret := none) (by decide +kernel) rfl (Nat.le_of_ble_eq_true rfl) ?_
  intro p e s m below meth c args hx hb hr hml hts hown hlocks hin hK hN A hA9 Q hQ9 hP hD hsz hS hA ls hl
  have hl : lv_has ls 1 [(0, .int v)] := hl
  obtain ⟨H, hH9⟩ : ∃ H, H = s.heap := ⟨_, rfl⟩
  rw [← hH9] at hP ⊢
  have hS : va_S A s.heap H [] := by rw [hH9]; exact va_S.rf
  refine lv_iload_n hx hb dX2_requireFan_0 rfl (lv_at hl 0 rfl) ?_
  refine lv_iconst (v := nI 0) hx hb dX2_requireFan_1 (by decide +kernel) ?_
  refine lv_bipush (v := nI 7) hx hb dX2_requireFan_2 (by decide +kernel) ?_
  refine kCall_v (W0 := []) (W1 := []) hP hD hS hA [] rfl rfl (va_runS (As := [.int v, .int (nI 0), .int (nI 7)]) (rest := []) ⟨hx, hb, hml, hown, hts⟩ (c_X2_requireWithin l D cI cZ cO cJ v (nI 0) (nI 7) H.size h1 h2) (va_cwS (rm := rmX2_requireWithin) 3 hts gX2_requireFan_X2_requireWithin rfl rfl rfl (by decide +kernel) ⟨Nat.le_of_ble_eq_true rfl, Nat.le_of_ble_eq_true rfl⟩) (kPreS hK hN hP hD [] rfl rfl) rfl rfl hl.1 rfl (lv_room (Nat.le_of_ble_eq_true rfl)) dX2_requireFan_4 ⟨Nat.zero_le _, Nat.zero_le _⟩) (fun H locs hP hD hS => ?_)
  have hP : va_P D vwCl ([]) H := hP
  have hD : va_D A ([]) := hD
  subst hQ9
  subst hA9
  exact kRet_v hx hb hr hlocks hP hS dX2_requireFan_7

abbrev rmX2_requireForecast : Room := { frames := 2, cells := 0, slots := 0, locals := 42 }
set_option maxHeartbeats 4000000 in
set_option maxRecDepth 100000 in
/-- requireForecast lets pass -/
theorem c_X2_requireForecast (l : Launch) (D : va_G) (cI cZ cO cJ : ClassId) (v w : Int32) (sz : Nat) (h1 : ¬ v < nI 0) (h2 : v ≤ nI 5) (h3 : ¬ w < nI 1) (h4 : w ≤ nI 60) : kMv l yX2_requireForecast wsX2_requireForecast rmX2_requireForecast D (kT cI cZ cO cJ) [.int v, .int w] ([]) ([]) sz := by
  refine kEnter (cc := cX2_requireForecast) (maxL := 2) (ret := none) (by decide +kernel) rfl (Nat.le_of_ble_eq_true rfl) ?_
  intro p e s m below meth c args hx hb hr hml hts hown hlocks hin hK hN A hA9 Q hQ9 hP hD hsz hS hA ls hl
  have hl : lv_has ls 2 [(0, .int v), (1, .int w)] := hl
  obtain ⟨H, hH9⟩ : ∃ H, H = s.heap := ⟨_, rfl⟩
  rw [← hH9] at hP ⊢
  have hS : va_S A s.heap H [] := by rw [hH9]; exact va_S.rf
  refine lv_iload_n hx hb dX2_requireForecast_0 rfl (lv_at hl 0 rfl) ?_
  refine kCall_v (W0 := []) (W1 := []) hP hD hS hA [] rfl rfl (va_runS (As := [.int v]) (rest := []) ⟨hx, hb, hml, hown, hts⟩ (c_X2_requireZone l D cI cZ cO cJ v H.size h1 h2) (va_cwS (rm := rmX2_requireZone) 1 hts gX2_requireForecast_X2_requireZone rfl rfl rfl (by decide +kernel) ⟨Nat.le_of_ble_eq_true rfl, Nat.le_of_ble_eq_true rfl⟩) (kPreS hK hN hP hD [] rfl rfl) rfl rfl hl.1 rfl (lv_room (Nat.le_of_ble_eq_true rfl)) dX2_requireForecast_1 ⟨Nat.zero_le _, Nat.zero_le _⟩) (fun H locs hP hD hS => ?_)
  have hP : va_P D vwCl ([]) H := hP
  have hD : va_D A ([]) := hD
  refine lv_iload_n hx hb dX2_requireForecast_4 rfl (lv_at hl 1 rfl) ?_
  refine lv_iconst (v := nI 1) hx hb dX2_requireForecast_5 (by decide +kernel) ?_
  refine lv_bipush (v := nI 60) hx hb dX2_requireForecast_6 (by decide +kernel) ?_
  refine kCall_v (W0 := []) (W1 := []) hP hD hS hA [] rfl rfl (va_runS (As := [.int w, .int (nI 1), .int (nI 60)]) (rest := []) ⟨hx, hb, hml, hown, hts⟩ (c_X2_requireWithin l D cI cZ cO cJ w (nI 1) (nI 60) H.size h3 h4) (va_cwS (rm := rmX2_requireWithin) 3 hts gX2_requireForecast_X2_requireWithin rfl rfl rfl (by decide +kernel) ⟨Nat.le_of_ble_eq_true rfl, Nat.le_of_ble_eq_true rfl⟩) (kPreS hK hN hP hD [] rfl rfl) rfl rfl hl.1 rfl (lv_room (Nat.le_of_ble_eq_true rfl)) dX2_requireForecast_8 ⟨Nat.zero_le _, Nat.zero_le _⟩) (fun H locs hP hD hS => ?_)
  have hP : va_P D vwCl ([]) H := hP
  have hD : va_D A ([]) := hD
  subst hQ9
  subst hA9
  exact kRet_v hx hb hr hlocks hP hS dX2_requireForecast_11

abbrev rmX2_setLoad : Room := { frames := 2, cells := 0, slots := 0, locals := 42 }
set_option maxHeartbeats 4000000 in
set_option maxRecDepth 100000 in
/-- setLoad -/
theorem c_X2_setLoad (l : Launch) (D : va_G) (cI cZ cO cJ : ClassId) (x a t b : Nat → Nat) (ck : Nat) (Ho T E Dm F S : Nat → Int32) (C : Nat → Nat → Int32) (la : Nat) (T1 E1 D1 F1 S1 : Nat → Int32) (C1 : Nat → Nat → Int32) (la1 : Nat) (Lo Se : Nat → Int32) (Ef : Nat → Nat → Int32) (gp gi am li : Int32) (dl : Nat) (z : Nat) (v : Int32) (sz : Nat) (hz : z < 6) (h1 : ¬ v < nI 0) (h2 : v ≤ nI 200) : kMi l yX2_setLoad wsX2_setLoad rmX2_setLoad D (kT cI cZ cO cJ) [.ref (x 0), .int (nI z), .int v] (wC cI cZ cO x a t b ck Ho T E Dm F S C la T1 E1 D1 F1 S1 C1 la1 Lo Se Ef gp gi am li dl) (wC cI cZ cO x a t b ck Ho T E Dm F S C la T1 E1 D1 F1 S1 C1 la1 (upd Lo z v) Se Ef gp gi am li dl) sz (Lo z) := by
  refine kEnter (cc := cX2_setLoad) (maxL := 4) (ret := some .int) (by decide +kernel) rfl (Nat.le_of_ble_eq_true rfl) ?_
  intro p e s m below meth c args hx hb hr hml hts hown hlocks hin hK hN A hA9 Q hQ9 hP hD hsz hS hA ls hl
  have hl : lv_has ls 4 [(0, .ref (x 0)), (1, .int (nI z)), (2, .int v)] := hl
  have hi_X2 : ∀ w ∈ u_ws RX2 TX2 5, w ∈ wsX2_setLoad := by decide +kernel
  have hi_X1 : ∀ w ∈ u_ws RX1 TX1 8, w ∈ wsX2_setLoad := by decide +kernel
  obtain ⟨H, hH9⟩ : ∃ H, H = s.heap := ⟨_, rfl⟩
  rw [← hH9] at hP ⊢
  have hS : va_S A s.heap H [] := by rw [hH9]; exact va_S.rf
  refine lv_iload_n hx hb dX2_setLoad_0 rfl (lv_at hl 1 rfl) ?_
  refine kCall_v (W0 := []) (W1 := []) hP hD hS hA [] rfl rfl (va_runS (As := [.int (nI z)]) (rest := []) ⟨hx, hb, hml, hown, hts⟩ (c_X2_requireZone l D cI cZ cO cJ (nI z) H.size (nI_nlt (by omega) (by omega)) (nI_le (by omega) (by decide))) (va_cwS (rm := rmX2_requireZone) 1 hts gX2_setLoad_X2_requireZone rfl rfl rfl (by decide +kernel) ⟨Nat.le_of_ble_eq_true rfl, Nat.le_of_ble_eq_true rfl⟩) (kPreS hK hN hP hD [] rfl rfl) rfl rfl hl.1 rfl (lv_room (Nat.le_of_ble_eq_true rfl)) dX2_setLoad_1 ⟨Nat.zero_le _, Nat.zero_le _⟩) (fun H locs hP hD hS => ?_)
  have hP : va_P D vwCl (wC cI cZ cO x a t b ck Ho T E Dm F S C la T1 E1 D1 F1 S1 C1 la1 Lo Se Ef gp gi am li dl) H := hP
  have hD : va_D A (wC cI cZ cO x a t b ck Ho T E Dm F S C la T1 E1 D1 F1 S1 C1 la1 Lo Se Ef gp gi am li dl) := hD
  refine lv_iload_n hx hb dX2_setLoad_4 rfl (lv_at hl 2 rfl) ?_
  refine lv_iconst (v := nI 0) hx hb dX2_setLoad_5 (by decide +kernel) ?_
  refine lv_sipush (v := nI 200) hx hb dX2_setLoad_6 (by decide +kernel) ?_
  refine kCall_v (W0 := []) (W1 := []) hP hD hS hA [] rfl rfl (va_runS (As := [.int v, .int (nI 0), .int (nI 200)]) (rest := []) ⟨hx, hb, hml, hown, hts⟩ (c_X2_requireWithin l D cI cZ cO cJ v (nI 0) (nI 200) H.size h1 h2) (va_cwS (rm := rmX2_requireWithin) 3 hts gX2_setLoad_X2_requireWithin rfl rfl rfl (by decide +kernel) ⟨Nat.le_of_ble_eq_true rfl, Nat.le_of_ble_eq_true rfl⟩) (kPreS hK hN hP hD [] rfl rfl) rfl rfl hl.1 rfl (lv_room (Nat.le_of_ble_eq_true rfl)) dX2_setLoad_9 ⟨Nat.zero_le _, Nat.zero_le _⟩) (fun H locs hP hD hS => ?_)
  have hP : va_P D vwCl (wC cI cZ cO x a t b ck Ho T E Dm F S C la T1 E1 D1 F1 S1 C1 la1 Lo Se Ef gp gi am li dl) H := hP
  have hD : va_D A (wC cI cZ cO x a t b ck Ho T E Dm F S C la T1 E1 D1 F1 S1 C1 la1 Lo Se Ef gp gi am li dl) := hD
  refine lv_aload_n hx hb dX2_setLoad_12 rfl (lv_at hl 0 rfl) ?_
  refine va_get (D := D) (ci := 2) (v := .ref (b 0)) (C := RX2) (T := TX2) (N := 5) hx hb hts hi_X2 hown hK hP 0 rfl rfl 0 (by decide) (hts (.fieldLink RX2 10 "Coldaisle" "settings" "LColdaisle$Settings;") (by decide +kernel)) (fun _ h9 => h9) rfl dX2_setLoad_13 ?_
  refine va_get (D := D) (ci := 1) (v := .ref (b 1)) (C := RX1) (T := TX1) (N := 8) hx hb hts hi_X1 hown hK hP 16 rfl rfl 0 (by decide) (hts (.fieldLink RX2 42 "Coldaisle$Settings" "load" "[I") (by decide +kernel)) (fun _ h9 => h9) rfl dX2_setLoad_16 ?_
  refine lv_iload_n hx hb dX2_setLoad_19 rfl (lv_at hl 1 rfl) ?_
  refine k_iald hx hb hK hP 17 0 rfl rfl (i := z) (by omega) (by decide) dX2_setLoad_20 ?_
  refine lv_istore_n (lv' := [(3, .int (Lo z)), (0, .ref (x 0)), (1, .int (nI z)), (2, .int v)]) hx hb dX2_setLoad_21 rfl hl (by decide) rfl (fun ls hl => ?_)
  refine lv_aload_n hx hb dX2_setLoad_22 rfl (lv_at hl 1 rfl) ?_
  refine va_get (D := D) (ci := 2) (v := .ref (b 0)) (C := RX2) (T := TX2) (N := 5) hx hb hts hi_X2 hown hK hP 0 rfl rfl 0 (by decide) (hts (.fieldLink RX2 10 "Coldaisle" "settings" "LColdaisle$Settings;") (by decide +kernel)) (fun _ h9 => h9) rfl dX2_setLoad_23 ?_
  refine va_get (D := D) (ci := 1) (v := .ref (b 1)) (C := RX1) (T := TX1) (N := 8) hx hb hts hi_X1 hown hK hP 16 rfl rfl 0 (by decide) (hts (.fieldLink RX2 42 "Coldaisle$Settings" "load" "[I") (by decide +kernel)) (fun _ h9 => h9) rfl dX2_setLoad_26 ?_
  refine lv_iload_n hx hb dX2_setLoad_29 rfl (lv_at hl 2 rfl) ?_
  refine lv_iload_n hx hb dX2_setLoad_30 rfl (lv_at hl 3 rfl) ?_
  refine k_iast hx hb hK hP hD hS 17 0 rfl rfl (i := z) (x := v) (by omega) (by decide) dX2_setLoad_31 (fun H locs hP hD hS => ?_)
  have hP : va_P D vwCl (wC cI cZ cO x a t b ck Ho T E Dm F S C la T1 E1 D1 F1 S1 C1 la1 (upd Lo z v) Se Ef gp gi am li dl) H := hP
  have hD : va_D A (wC cI cZ cO x a t b ck Ho T E Dm F S C la T1 E1 D1 F1 S1 C1 la1 (upd Lo z v) Se Ef gp gi am li dl) := hD
  refine lv_iload_n hx hb dX2_setLoad_32 rfl (lv_at hl 0 rfl) ?_
  subst hQ9
  subst hA9
  exact kRet_i hx hb hr hlocks hP hS dX2_setLoad_33 rfl

abbrev rmX2_setSetpoint : Room := { frames := 2, cells := 0, slots := 0, locals := 42 }
set_option maxHeartbeats 4000000 in
set_option maxRecDepth 100000 in
/-- setSetpoint -/
theorem c_X2_setSetpoint (l : Launch) (D : va_G) (cI cZ cO cJ : ClassId) (x a t b : Nat → Nat) (ck : Nat) (Ho T E Dm F S : Nat → Int32) (C : Nat → Nat → Int32) (la : Nat) (T1 E1 D1 F1 S1 : Nat → Int32) (C1 : Nat → Nat → Int32) (la1 : Nat) (Lo Se : Nat → Int32) (Ef : Nat → Nat → Int32) (gp gi am li : Int32) (dl : Nat) (z : Nat) (v : Int32) (sz : Nat) (hz : z < 6) (h1 : ¬ v < nI 1500) (h2 : v ≤ nI 3500) : kMi l yX2_setSetpoint wsX2_setSetpoint rmX2_setSetpoint D (kT cI cZ cO cJ) [.ref (x 0), .int (nI z), .int v] (wC cI cZ cO x a t b ck Ho T E Dm F S C la T1 E1 D1 F1 S1 C1 la1 Lo Se Ef gp gi am li dl) (wC cI cZ cO x a t b ck Ho T (upd E z (nI 0)) Dm F S C la T1 E1 D1 F1 S1 C1 la1 Lo (upd Se z v) Ef gp gi am li dl) sz (Se z) := by
  refine kEnter (cc := cX2_setSetpoint) (maxL := 4) (ret := some .int) (by decide +kernel) rfl (Nat.le_of_ble_eq_true rfl) ?_
  intro p e s m below meth c args hx hb hr hml hts hown hlocks hin hK hN A hA9 Q hQ9 hP hD hsz hS hA ls hl
  have hl : lv_has ls 4 [(0, .ref (x 0)), (1, .int (nI z)), (2, .int v)] := hl
  have hi_X2 : ∀ w ∈ u_ws RX2 TX2 5, w ∈ wsX2_setSetpoint := by decide +kernel
  have hi_X1 : ∀ w ∈ u_ws RX1 TX1 8, w ∈ wsX2_setSetpoint := by decide +kernel
  have hi_X0 : ∀ w ∈ u_ws RX0 TX0 7, w ∈ wsX2_setSetpoint := by decide +kernel
  obtain ⟨H, hH9⟩ : ∃ H, H = s.heap := ⟨_, rfl⟩
  rw [← hH9] at hP ⊢
  have hS : va_S A s.heap H [] := by rw [hH9]; exact va_S.rf
  refine lv_iload_n hx hb dX2_setSetpoint_0 rfl (lv_at hl 1 rfl) ?_
  refine kCall_v (W0 := []) (W1 := []) hP hD hS hA [] rfl rfl (va_runS (As := [.int (nI z)]) (rest := []) ⟨hx, hb, hml, hown, hts⟩ (c_X2_requireZone l D cI cZ cO cJ (nI z) H.size (nI_nlt (by omega) (by omega)) (nI_le (by omega) (by decide))) (va_cwS (rm := rmX2_requireZone) 1 hts gX2_setSetpoint_X2_requireZone rfl rfl rfl (by decide +kernel) ⟨Nat.le_of_ble_eq_true rfl, Nat.le_of_ble_eq_true rfl⟩) (kPreS hK hN hP hD [] rfl rfl) rfl rfl hl.1 rfl (lv_room (Nat.le_of_ble_eq_true rfl)) dX2_setSetpoint_1 ⟨Nat.zero_le _, Nat.zero_le _⟩) (fun H locs hP hD hS => ?_)
  have hP : va_P D vwCl (wC cI cZ cO x a t b ck Ho T E Dm F S C la T1 E1 D1 F1 S1 C1 la1 Lo Se Ef gp gi am li dl) H := hP
  have hD : va_D A (wC cI cZ cO x a t b ck Ho T E Dm F S C la T1 E1 D1 F1 S1 C1 la1 Lo Se Ef gp gi am li dl) := hD
  refine lv_iload_n hx hb dX2_setSetpoint_4 rfl (lv_at hl 2 rfl) ?_
  refine lv_sipush (v := nI 1500) hx hb dX2_setSetpoint_5 (by decide +kernel) ?_
  refine lv_sipush (v := nI 3500) hx hb dX2_setSetpoint_8 (by decide +kernel) ?_
  refine kCall_v (W0 := []) (W1 := []) hP hD hS hA [] rfl rfl (va_runS (As := [.int v, .int (nI 1500), .int (nI 3500)]) (rest := []) ⟨hx, hb, hml, hown, hts⟩ (c_X2_requireWithin l D cI cZ cO cJ v (nI 1500) (nI 3500) H.size h1 h2) (va_cwS (rm := rmX2_requireWithin) 3 hts gX2_setSetpoint_X2_requireWithin rfl rfl rfl (by decide +kernel) ⟨Nat.le_of_ble_eq_true rfl, Nat.le_of_ble_eq_true rfl⟩) (kPreS hK hN hP hD [] rfl rfl) rfl rfl hl.1 rfl (lv_room (Nat.le_of_ble_eq_true rfl)) dX2_setSetpoint_11 ⟨Nat.zero_le _, Nat.zero_le _⟩) (fun H locs hP hD hS => ?_)
  have hP : va_P D vwCl (wC cI cZ cO x a t b ck Ho T E Dm F S C la T1 E1 D1 F1 S1 C1 la1 Lo Se Ef gp gi am li dl) H := hP
  have hD : va_D A (wC cI cZ cO x a t b ck Ho T E Dm F S C la T1 E1 D1 F1 S1 C1 la1 Lo Se Ef gp gi am li dl) := hD
  refine lv_aload_n hx hb dX2_setSetpoint_14 rfl (lv_at hl 0 rfl) ?_
  refine va_get (D := D) (ci := 2) (v := .ref (b 0)) (C := RX2) (T := TX2) (N := 5) hx hb hts hi_X2 hown hK hP 0 rfl rfl 0 (by decide) (hts (.fieldLink RX2 10 "Coldaisle" "settings" "LColdaisle$Settings;") (by decide +kernel)) (fun _ h9 => h9) rfl dX2_setSetpoint_15 ?_
  refine va_get (D := D) (ci := 1) (v := .ref (b 2)) (C := RX1) (T := TX1) (N := 8) hx hb hts hi_X1 hown hK hP 16 rfl rfl 1 (by decide) (hts (.fieldLink RX2 45 "Coldaisle$Settings" "setpoint" "[I") (by decide +kernel)) (fun _ h9 => h9) rfl dX2_setSetpoint_18 ?_
  refine lv_iload_n hx hb dX2_setSetpoint_21 rfl (lv_at hl 1 rfl) ?_
  refine k_iald hx hb hK hP 18 0 rfl rfl (i := z) (by omega) (by decide) dX2_setSetpoint_22 ?_
  refine lv_istore_n (lv' := [(3, .int (Se z)), (0, .ref (x 0)), (1, .int (nI z)), (2, .int v)]) hx hb dX2_setSetpoint_23 rfl hl (by decide) rfl (fun ls hl => ?_)
  refine lv_aload_n hx hb dX2_setSetpoint_24 rfl (lv_at hl 1 rfl) ?_
  refine va_get (D := D) (ci := 2) (v := .ref (b 0)) (C := RX2) (T := TX2) (N := 5) hx hb hts hi_X2 hown hK hP 0 rfl rfl 0 (by decide) (hts (.fieldLink RX2 10 "Coldaisle" "settings" "LColdaisle$Settings;") (by decide +kernel)) (fun _ h9 => h9) rfl dX2_setSetpoint_25 ?_
  refine va_get (D := D) (ci := 1) (v := .ref (b 2)) (C := RX1) (T := TX1) (N := 8) hx hb hts hi_X1 hown hK hP 16 rfl rfl 1 (by decide) (hts (.fieldLink RX2 45 "Coldaisle$Settings" "setpoint" "[I") (by decide +kernel)) (fun _ h9 => h9) rfl dX2_setSetpoint_28 ?_
  refine lv_iload_n hx hb dX2_setSetpoint_31 rfl (lv_at hl 2 rfl) ?_
  refine lv_iload_n hx hb dX2_setSetpoint_32 rfl (lv_at hl 3 rfl) ?_
  refine k_iast hx hb hK hP hD hS 18 0 rfl rfl (i := z) (x := v) (by omega) (by decide) dX2_setSetpoint_33 (fun H locs hP hD hS => ?_)
  have hP : va_P D vwCl (wC cI cZ cO x a t b ck Ho T E Dm F S C la T1 E1 D1 F1 S1 C1 la1 Lo (upd Se z v) Ef gp gi am li dl) H := hP
  have hD : va_D A (wC cI cZ cO x a t b ck Ho T E Dm F S C la T1 E1 D1 F1 S1 C1 la1 Lo (upd Se z v) Ef gp gi am li dl) := hD
  refine lv_aload_n hx hb dX2_setSetpoint_34 rfl (lv_at hl 1 rfl) ?_
  refine va_get (D := D) (ci := 2) (v := .ref (a 0)) (C := RX2) (T := TX2) (N := 5) hx hb hts hi_X2 hown hK hP 0 rfl rfl 1 (by decide) (hts (.fieldLink RX2 19 "Coldaisle" "hall" "LColdaisle$Hall;") (by decide +kernel)) (fun _ h9 => h9) rfl dX2_setSetpoint_35 ?_
  refine va_get (D := D) (ci := 0) (v := .ref (a 2)) (C := RX0) (T := TX0) (N := 7) hx hb hts hi_X0 hown hK hP 2 rfl rfl 1 (by decide) (hts (.fieldLink RX2 48 "Coldaisle$Hall" "errors" "[I") (by decide +kernel)) (fun _ h9 => h9) rfl dX2_setSetpoint_38 ?_
  refine lv_iload_n hx hb dX2_setSetpoint_41 rfl (lv_at hl 2 rfl) ?_
  refine lv_iconst (v := nI 0) hx hb dX2_setSetpoint_42 (by decide +kernel) ?_
  refine k_iast hx hb hK hP hD hS 4 0 rfl rfl (i := z) (x := nI 0) (by omega) (by decide) dX2_setSetpoint_43 (fun H locs hP hD hS => ?_)
  have hP : va_P D vwCl (wC cI cZ cO x a t b ck Ho T (upd E z (nI 0)) Dm F S C la T1 E1 D1 F1 S1 C1 la1 Lo (upd Se z v) Ef gp gi am li dl) H := hP
  have hD : va_D A (wC cI cZ cO x a t b ck Ho T (upd E z (nI 0)) Dm F S C la T1 E1 D1 F1 S1 C1 la1 Lo (upd Se z v) Ef gp gi am li dl) := hD
  refine lv_iload_n hx hb dX2_setSetpoint_44 rfl (lv_at hl 0 rfl) ?_
  subst hQ9
  subst hA9
  exact kRet_i hx hb hr hlocks hP hS dX2_setSetpoint_45 rfl

abbrev rmX2_setEffect : Room := { frames := 2, cells := 0, slots := 0, locals := 42 }
set_option maxHeartbeats 4000000 in
set_option maxRecDepth 100000 in
/-- setEffect -/
theorem c_X2_setEffect (l : Launch) (D : va_G) (cI cZ cO cJ : ClassId) (x a t b : Nat → Nat) (ck : Nat) (Ho T E Dm F S : Nat → Int32) (C : Nat → Nat → Int32) (la : Nat) (T1 E1 D1 F1 S1 : Nat → Int32) (C1 : Nat → Nat → Int32) (la1 : Nat) (Lo Se : Nat → Int32) (Ef : Nat → Nat → Int32) (gp gi am li : Int32) (dl : Nat) (f z : Nat) (v : Int32) (sz : Nat) (hf : f < 8) (hz : z < 6) (h1 : ¬ v < nI 0) (h2 : v ≤ nI 100) : kMi l yX2_setEffect wsX2_setEffect rmX2_setEffect D (kT cI cZ cO cJ) [.ref (x 0), .int (nI f), .int (nI z), .int v] (wC cI cZ cO x a t b ck Ho T E Dm F S C la T1 E1 D1 F1 S1 C1 la1 Lo Se Ef gp gi am li dl) (wC cI cZ cO x a t b ck Ho T E Dm F S C la T1 E1 D1 F1 S1 C1 la1 Lo Se (va_up Ef f (upd (Ef f) z v)) gp gi am li dl) sz (Ef f z) := by
  refine kEnter (cc := cX2_setEffect) (maxL := 5) (ret := some .int) (by decide +kernel) rfl (Nat.le_of_ble_eq_true rfl) ?_
  intro p e s m below meth c args hx hb hr hml hts hown hlocks hin hK hN A hA9 Q hQ9 hP hD hsz hS hA ls hl
  have hl : lv_has ls 5 [(0, .ref (x 0)), (1, .int (nI f)), (2, .int (nI z)), (3, .int v)] := hl
  have hi_X2 : ∀ w ∈ u_ws RX2 TX2 5, w ∈ wsX2_setEffect := by decide +kernel
  have hi_X1 : ∀ w ∈ u_ws RX1 TX1 8, w ∈ wsX2_setEffect := by decide +kernel
  obtain ⟨H, hH9⟩ : ∃ H, H = s.heap := ⟨_, rfl⟩
  rw [← hH9] at hP ⊢
  have hS : va_S A s.heap H [] := by rw [hH9]; exact va_S.rf
  refine lv_iload_n hx hb dX2_setEffect_0 rfl (lv_at hl 1 rfl) ?_
  refine kCall_v (W0 := []) (W1 := []) hP hD hS hA [] rfl rfl (va_runS (As := [.int (nI f)]) (rest := []) ⟨hx, hb, hml, hown, hts⟩ (c_X2_requireFan l D cI cZ cO cJ (nI f) H.size (nI_nlt (by omega) (by omega)) (nI_le (by omega) (by decide))) (va_cwS (rm := rmX2_requireFan) 1 hts gX2_setEffect_X2_requireFan rfl rfl rfl (by decide +kernel) ⟨Nat.le_of_ble_eq_true rfl, Nat.le_of_ble_eq_true rfl⟩) (kPreS hK hN hP hD [] rfl rfl) rfl rfl hl.1 rfl (lv_room (Nat.le_of_ble_eq_true rfl)) dX2_setEffect_1 ⟨Nat.zero_le _, Nat.zero_le _⟩) (fun H locs hP hD hS => ?_)
  have hP : va_P D vwCl (wC cI cZ cO x a t b ck Ho T E Dm F S C la T1 E1 D1 F1 S1 C1 la1 Lo Se Ef gp gi am li dl) H := hP
  have hD : va_D A (wC cI cZ cO x a t b ck Ho T E Dm F S C la T1 E1 D1 F1 S1 C1 la1 Lo Se Ef gp gi am li dl) := hD
  refine lv_iload_n hx hb dX2_setEffect_4 rfl (lv_at hl 2 rfl) ?_
  refine kCall_v (W0 := []) (W1 := []) hP hD hS hA [] rfl rfl (va_runS (As := [.int (nI z)]) (rest := []) ⟨hx, hb, hml, hown, hts⟩ (c_X2_requireZone l D cI cZ cO cJ (nI z) H.size (nI_nlt (by omega) (by omega)) (nI_le (by omega) (by decide))) (va_cwS (rm := rmX2_requireZone) 1 hts gX2_setEffect_X2_requireZone rfl rfl rfl (by decide +kernel) ⟨Nat.le_of_ble_eq_true rfl, Nat.le_of_ble_eq_true rfl⟩) (kPreS hK hN hP hD [] rfl rfl) rfl rfl hl.1 rfl (lv_room (Nat.le_of_ble_eq_true rfl)) dX2_setEffect_5 ⟨Nat.zero_le _, Nat.zero_le _⟩) (fun H locs hP hD hS => ?_)
  have hP : va_P D vwCl (wC cI cZ cO x a t b ck Ho T E Dm F S C la T1 E1 D1 F1 S1 C1 la1 Lo Se Ef gp gi am li dl) H := hP
  have hD : va_D A (wC cI cZ cO x a t b ck Ho T E Dm F S C la T1 E1 D1 F1 S1 C1 la1 Lo Se Ef gp gi am li dl) := hD
  refine lv_iload_n hx hb dX2_setEffect_8 rfl (lv_at hl 3 rfl) ?_
  refine lv_iconst (v := nI 0) hx hb dX2_setEffect_9 (by decide +kernel) ?_
  refine lv_bipush (v := nI 100) hx hb dX2_setEffect_10 (by decide +kernel) ?_
  refine kCall_v (W0 := []) (W1 := []) hP hD hS hA [] rfl rfl (va_runS (As := [.int v, .int (nI 0), .int (nI 100)]) (rest := []) ⟨hx, hb, hml, hown, hts⟩ (c_X2_requireWithin l D cI cZ cO cJ v (nI 0) (nI 100) H.size h1 h2) (va_cwS (rm := rmX2_requireWithin) 3 hts gX2_setEffect_X2_requireWithin rfl rfl rfl (by decide +kernel) ⟨Nat.le_of_ble_eq_true rfl, Nat.le_of_ble_eq_true rfl⟩) (kPreS hK hN hP hD [] rfl rfl) rfl rfl hl.1 rfl (lv_room (Nat.le_of_ble_eq_true rfl)) dX2_setEffect_12 ⟨Nat.zero_le _, Nat.zero_le _⟩) (fun H locs hP hD hS => ?_)
  have hP : va_P D vwCl (wC cI cZ cO x a t b ck Ho T E Dm F S C la T1 E1 D1 F1 S1 C1 la1 Lo Se Ef gp gi am li dl) H := hP
  have hD : va_D A (wC cI cZ cO x a t b ck Ho T E Dm F S C la T1 E1 D1 F1 S1 C1 la1 Lo Se Ef gp gi am li dl) := hD
  refine lv_aload_n hx hb dX2_setEffect_15 rfl (lv_at hl 0 rfl) ?_
  refine va_get (D := D) (ci := 2) (v := .ref (b 0)) (C := RX2) (T := TX2) (N := 5) hx hb hts hi_X2 hown hK hP 0 rfl rfl 0 (by decide) (hts (.fieldLink RX2 10 "Coldaisle" "settings" "LColdaisle$Settings;") (by decide +kernel)) (fun _ h9 => h9) rfl dX2_setEffect_16 ?_
  refine va_get (D := D) (ci := 1) (v := .ref (b 3)) (C := RX1) (T := TX1) (N := 8) hx hb hts hi_X1 hown hK hP 16 rfl rfl 2 (by decide) (hts (.fieldLink RX2 54 "Coldaisle$Settings" "effect" "[[I") (by decide +kernel)) (fun _ h9 => h9) rfl dX2_setEffect_19 ?_
  refine lv_iload_n hx hb dX2_setEffect_22 rfl (lv_at hl 1 rfl) ?_
  refine k_aald hx hb hK hP 19 2 rfl rfl (i := f) (by omega) (by decide) dX2_setEffect_23 ?_
  refine lv_iload_n hx hb dX2_setEffect_24 rfl (lv_at hl 2 rfl) ?_
  refine k_iald hx hb hK hP _ 0 (wC_eff (j := f) (by omega)) rfl (i := z) (by omega) (by decide) dX2_setEffect_25 ?_
  refine lv_istore (lv' := [(4, .int ((Ef f) z)), (0, .ref (x 0)), (1, .int (nI f)), (2, .int (nI z)), (3, .int v)]) hx hb dX2_setEffect_26 hl (by decide) rfl (fun ls hl => ?_)
  refine lv_aload_n hx hb dX2_setEffect_28 rfl (lv_at hl 1 rfl) ?_
  refine va_get (D := D) (ci := 2) (v := .ref (b 0)) (C := RX2) (T := TX2) (N := 5) hx hb hts hi_X2 hown hK hP 0 rfl rfl 0 (by decide) (hts (.fieldLink RX2 10 "Coldaisle" "settings" "LColdaisle$Settings;") (by decide +kernel)) (fun _ h9 => h9) rfl dX2_setEffect_29 ?_
  refine va_get (D := D) (ci := 1) (v := .ref (b 3)) (C := RX1) (T := TX1) (N := 8) hx hb hts hi_X1 hown hK hP 16 rfl rfl 2 (by decide) (hts (.fieldLink RX2 54 "Coldaisle$Settings" "effect" "[[I") (by decide +kernel)) (fun _ h9 => h9) rfl dX2_setEffect_32 ?_
  refine lv_iload_n hx hb dX2_setEffect_35 rfl (lv_at hl 2 rfl) ?_
  refine k_aald hx hb hK hP 19 2 rfl rfl (i := f) (by omega) (by decide) dX2_setEffect_36 ?_
  refine lv_iload_n hx hb dX2_setEffect_37 rfl (lv_at hl 3 rfl) ?_
  refine lv_iload_n hx hb dX2_setEffect_38 rfl (lv_at hl 4 rfl) ?_
  refine k_iast hx hb hK hP hD hS _ 0 (wC_eff (j := f) (by omega)) rfl (i := z) (x := v) (by omega) (by decide) dX2_setEffect_39 (fun H locs hP hD hS => ?_)
  have hP : va_P D vwCl (wC cI cZ cO x a t b ck Ho T E Dm F S C la T1 E1 D1 F1 S1 C1 la1 Lo Se (va_up Ef f (upd (Ef f) z v)) gp gi am li dl) H := (by have h := hP; rw [wC_eff_set (j := f) (by omega)] at h; exact h)
  have hD : va_D A (wC cI cZ cO x a t b ck Ho T E Dm F S C la T1 E1 D1 F1 S1 C1 la1 Lo Se (va_up Ef f (upd (Ef f) z v)) gp gi am li dl) := (by have h := hD; rw [wC_eff_set (j := f) (by omega)] at h; exact h)
  refine lv_iload hx hb dX2_setEffect_40 (lv_at hl 0 rfl) ?_
  subst hQ9
  subst hA9
  exact kRet_i hx hb hr hlocks hP hS dX2_setEffect_42 rfl

abbrev rmX2_setGains : Room := { frames := 1, cells := 0, slots := 0, locals := 22 }
set_option maxHeartbeats 4000000 in
set_option maxRecDepth 100000 in
/-- setGains -/
theorem c_X2_setGains (l : Launch) (D : va_G) (cI cZ cO cJ : ClassId) (x a t b : Nat → Nat) (ck : Nat) (Ho T E Dm F S : Nat → Int32) (C : Nat → Nat → Int32) (la : Nat) (T1 E1 D1 F1 S1 : Nat → Int32) (C1 : Nat → Nat → Int32) (la1 : Nat) (Lo Se : Nat → Int32) (Ef : Nat → Nat → Int32) (gp gi am li : Int32) (dl : Nat) (v w : Int32) (sz : Nat) (h1 : ¬ v < nI 0) (h2 : v ≤ nI 200) (h3 : ¬ w < nI 0) (h4 : w ≤ nI 200) : kMv l yX2_setGains wsX2_setGains rmX2_setGains D (kT cI cZ cO cJ) [.ref (x 0), .int v, .int w] (wC cI cZ cO x a t b ck Ho T E Dm F S C la T1 E1 D1 F1 S1 C1 la1 Lo Se Ef gp gi am li dl) (wC cI cZ cO x a t b ck Ho T E Dm F S C la T1 E1 D1 F1 S1 C1 la1 Lo Se Ef v w am li dl) sz := by
  refine kEnter (cc := cX2_setGains) (maxL := 3) (ret := none) (by decide +kernel) rfl (Nat.le_of_ble_eq_true rfl) ?_
  intro p e s m below meth c args hx hb hr hml hts hown hlocks hin hK hN A hA9 Q hQ9 hP hD hsz hS hA ls hl
  have hl : lv_has ls 3 [(0, .ref (x 0)), (1, .int v), (2, .int w)] := hl
  have hi_X2 : ∀ w ∈ u_ws RX2 TX2 5, w ∈ wsX2_setGains := by decide +kernel
  have hi_X1 : ∀ w ∈ u_ws RX1 TX1 8, w ∈ wsX2_setGains := by decide +kernel
  obtain ⟨H, hH9⟩ : ∃ H, H = s.heap := ⟨_, rfl⟩
  rw [← hH9] at hP ⊢
  have hS : va_S A s.heap H [] := by rw [hH9]; exact va_S.rf
  refine lv_iload_n hx hb dX2_setGains_0 rfl (lv_at hl 1 rfl) ?_
  refine lv_iconst (v := nI 0) hx hb dX2_setGains_1 (by decide +kernel) ?_
  refine lv_sipush (v := nI 200) hx hb dX2_setGains_2 (by decide +kernel) ?_
  refine kCall_v (W0 := []) (W1 := []) hP hD hS hA [] rfl rfl (va_runS (As := [.int v, .int (nI 0), .int (nI 200)]) (rest := []) ⟨hx, hb, hml, hown, hts⟩ (c_X2_requireWithin l D cI cZ cO cJ v (nI 0) (nI 200) H.size h1 h2) (va_cwS (rm := rmX2_requireWithin) 3 hts gX2_setGains_X2_requireWithin rfl rfl rfl (by decide +kernel) ⟨Nat.le_of_ble_eq_true rfl, Nat.le_of_ble_eq_true rfl⟩) (kPreS hK hN hP hD [] rfl rfl) rfl rfl hl.1 rfl (lv_room (Nat.le_of_ble_eq_true rfl)) dX2_setGains_5 ⟨Nat.zero_le _, Nat.zero_le _⟩) (fun H locs hP hD hS => ?_)
  have hP : va_P D vwCl (wC cI cZ cO x a t b ck Ho T E Dm F S C la T1 E1 D1 F1 S1 C1 la1 Lo Se Ef gp gi am li dl) H := hP
  have hD : va_D A (wC cI cZ cO x a t b ck Ho T E Dm F S C la T1 E1 D1 F1 S1 C1 la1 Lo Se Ef gp gi am li dl) := hD
  refine lv_iload_n hx hb dX2_setGains_8 rfl (lv_at hl 2 rfl) ?_
  refine lv_iconst (v := nI 0) hx hb dX2_setGains_9 (by decide +kernel) ?_
  refine lv_sipush (v := nI 200) hx hb dX2_setGains_10 (by decide +kernel) ?_
  refine kCall_v (W0 := []) (W1 := []) hP hD hS hA [] rfl rfl (va_runS (As := [.int w, .int (nI 0), .int (nI 200)]) (rest := []) ⟨hx, hb, hml, hown, hts⟩ (c_X2_requireWithin l D cI cZ cO cJ w (nI 0) (nI 200) H.size h3 h4) (va_cwS (rm := rmX2_requireWithin) 3 hts gX2_setGains_X2_requireWithin rfl rfl rfl (by decide +kernel) ⟨Nat.le_of_ble_eq_true rfl, Nat.le_of_ble_eq_true rfl⟩) (kPreS hK hN hP hD [] rfl rfl) rfl rfl hl.1 rfl (lv_room (Nat.le_of_ble_eq_true rfl)) dX2_setGains_13 ⟨Nat.zero_le _, Nat.zero_le _⟩) (fun H locs hP hD hS => ?_)
  have hP : va_P D vwCl (wC cI cZ cO x a t b ck Ho T E Dm F S C la T1 E1 D1 F1 S1 C1 la1 Lo Se Ef gp gi am li dl) H := hP
  have hD : va_D A (wC cI cZ cO x a t b ck Ho T E Dm F S C la T1 E1 D1 F1 S1 C1 la1 Lo Se Ef gp gi am li dl) := hD
  refine lv_aload_n hx hb dX2_setGains_16 rfl (lv_at hl 0 rfl) ?_
  refine va_get (D := D) (ci := 2) (v := .ref (b 0)) (C := RX2) (T := TX2) (N := 5) hx hb hts hi_X2 hown hK hP 0 rfl rfl 0 (by decide) (hts (.fieldLink RX2 10 "Coldaisle" "settings" "LColdaisle$Settings;") (by decide +kernel)) (fun _ h9 => h9) rfl dX2_setGains_17 ?_
  refine lv_iload_n hx hb dX2_setGains_20 rfl (lv_at hl 1 rfl) ?_
  refine va_put (D := D) (ci := 1) (v := .int v) (ty := tyX1 3) (C := RX1) (T := TX1) (N := 8) hx hb hts hi_X1 tyX1 tyX1_ok nmX1 hown hK hP hD hS 16 rfl rfl 3 (by decide) (hts (.fieldLink RX2 58 "Coldaisle$Settings" "proportional" "I") (by decide +kernel)) (fun _ h9 => h9) rfl (by decide +kernel) rfl rfl (Nat.le_of_ble_eq_true rfl) dX2_setGains_21 (fun H locs hP hD hS => ?_)
  have hP : va_P D vwCl (wC cI cZ cO x a t b ck Ho T E Dm F S C la T1 E1 D1 F1 S1 C1 la1 Lo Se Ef v gi am li dl) H := hP
  have hD : va_D A (wC cI cZ cO x a t b ck Ho T E Dm F S C la T1 E1 D1 F1 S1 C1 la1 Lo Se Ef v gi am li dl) := hD
  refine lv_aload_n hx hb dX2_setGains_24 rfl (lv_at hl 0 rfl) ?_
  refine va_get (D := D) (ci := 2) (v := .ref (b 0)) (C := RX2) (T := TX2) (N := 5) hx hb hts hi_X2 hown hK hP 0 rfl rfl 0 (by decide) (hts (.fieldLink RX2 10 "Coldaisle" "settings" "LColdaisle$Settings;") (by decide +kernel)) (fun _ h9 => h9) rfl dX2_setGains_25 ?_
  refine lv_iload_n hx hb dX2_setGains_28 rfl (lv_at hl 2 rfl) ?_
  refine va_put (D := D) (ci := 1) (v := .int w) (ty := tyX1 4) (C := RX1) (T := TX1) (N := 8) hx hb hts hi_X1 tyX1 tyX1_ok nmX1 hown hK hP hD hS 16 rfl rfl 4 (by decide) (hts (.fieldLink RX2 61 "Coldaisle$Settings" "integral" "I") (by decide +kernel)) (fun _ h9 => h9) rfl (by decide +kernel) rfl rfl (Nat.le_of_ble_eq_true rfl) dX2_setGains_29 (fun H locs hP hD hS => ?_)
  have hP : va_P D vwCl (wC cI cZ cO x a t b ck Ho T E Dm F S C la T1 E1 D1 F1 S1 C1 la1 Lo Se Ef v w am li dl) H := hP
  have hD : va_D A (wC cI cZ cO x a t b ck Ho T E Dm F S C la T1 E1 D1 F1 S1 C1 la1 Lo Se Ef v w am li dl) := hD
  subst hQ9
  subst hA9
  exact kRet_v hx hb hr hlocks hP hS dX2_setGains_32

abbrev rmX2_setHall : Room := { frames := 1, cells := 0, slots := 0, locals := 22 }
set_option maxHeartbeats 4000000 in
set_option maxRecDepth 100000 in
/-- setHall -/
theorem c_X2_setHall (l : Launch) (D : va_G) (cI cZ cO cJ : ClassId) (x a t b : Nat → Nat) (ck : Nat) (Ho T E Dm F S : Nat → Int32) (C : Nat → Nat → Int32) (la : Nat) (T1 E1 D1 F1 S1 : Nat → Int32) (C1 : Nat → Nat → Int32) (la1 : Nat) (Lo Se : Nat → Int32) (Ef : Nat → Nat → Int32) (gp gi am li : Int32) (dl : Nat) (v w : Int32) (sz : Nat) (h1 : ¬ v < nI 1000) (h2 : v ≤ nI 5000) (h3 : ¬ w < nI 1000) (h4 : w ≤ nI 5000) : kMv l yX2_setHall wsX2_setHall rmX2_setHall D (kT cI cZ cO cJ) [.ref (x 0), .int v, .int w] (wC cI cZ cO x a t b ck Ho T E Dm F S C la T1 E1 D1 F1 S1 C1 la1 Lo Se Ef gp gi am li dl) (wC cI cZ cO x a t b ck Ho T E Dm F S C la T1 E1 D1 F1 S1 C1 la1 Lo Se Ef gp gi v w dl) sz := by
  refine kEnter (cc := cX2_setHall) (maxL := 3) (ret := none) (by decide +kernel) rfl (Nat.le_of_ble_eq_true rfl) ?_
  intro p e s m below meth c args hx hb hr hml hts hown hlocks hin hK hN A hA9 Q hQ9 hP hD hsz hS hA ls hl
  have hl : lv_has ls 3 [(0, .ref (x 0)), (1, .int v), (2, .int w)] := hl
  have hi_X2 : ∀ w ∈ u_ws RX2 TX2 5, w ∈ wsX2_setHall := by decide +kernel
  have hi_X1 : ∀ w ∈ u_ws RX1 TX1 8, w ∈ wsX2_setHall := by decide +kernel
  obtain ⟨H, hH9⟩ : ∃ H, H = s.heap := ⟨_, rfl⟩
  rw [← hH9] at hP ⊢
  have hS : va_S A s.heap H [] := by rw [hH9]; exact va_S.rf
  refine lv_iload_n hx hb dX2_setHall_0 rfl (lv_at hl 1 rfl) ?_
  refine lv_sipush (v := nI 1000) hx hb dX2_setHall_1 (by decide +kernel) ?_
  refine lv_sipush (v := nI 5000) hx hb dX2_setHall_4 (by decide +kernel) ?_
  refine kCall_v (W0 := []) (W1 := []) hP hD hS hA [] rfl rfl (va_runS (As := [.int v, .int (nI 1000), .int (nI 5000)]) (rest := []) ⟨hx, hb, hml, hown, hts⟩ (c_X2_requireWithin l D cI cZ cO cJ v (nI 1000) (nI 5000) H.size h1 h2) (va_cwS (rm := rmX2_requireWithin) 3 hts gX2_setHall_X2_requireWithin rfl rfl rfl (by decide +kernel) ⟨Nat.le_of_ble_eq_true rfl, Nat.le_of_ble_eq_true rfl⟩) (kPreS hK hN hP hD [] rfl rfl) rfl rfl hl.1 rfl (lv_room (Nat.le_of_ble_eq_true rfl)) dX2_setHall_7 ⟨Nat.zero_le _, Nat.zero_le _⟩) (fun H locs hP hD hS => ?_)
  have hP : va_P D vwCl (wC cI cZ cO x a t b ck Ho T E Dm F S C la T1 E1 D1 F1 S1 C1 la1 Lo Se Ef gp gi am li dl) H := hP
  have hD : va_D A (wC cI cZ cO x a t b ck Ho T E Dm F S C la T1 E1 D1 F1 S1 C1 la1 Lo Se Ef gp gi am li dl) := hD
  refine lv_iload_n hx hb dX2_setHall_10 rfl (lv_at hl 2 rfl) ?_
  refine lv_sipush (v := nI 1000) hx hb dX2_setHall_11 (by decide +kernel) ?_
  refine lv_sipush (v := nI 5000) hx hb dX2_setHall_14 (by decide +kernel) ?_
  refine kCall_v (W0 := []) (W1 := []) hP hD hS hA [] rfl rfl (va_runS (As := [.int w, .int (nI 1000), .int (nI 5000)]) (rest := []) ⟨hx, hb, hml, hown, hts⟩ (c_X2_requireWithin l D cI cZ cO cJ w (nI 1000) (nI 5000) H.size h3 h4) (va_cwS (rm := rmX2_requireWithin) 3 hts gX2_setHall_X2_requireWithin rfl rfl rfl (by decide +kernel) ⟨Nat.le_of_ble_eq_true rfl, Nat.le_of_ble_eq_true rfl⟩) (kPreS hK hN hP hD [] rfl rfl) rfl rfl hl.1 rfl (lv_room (Nat.le_of_ble_eq_true rfl)) dX2_setHall_17 ⟨Nat.zero_le _, Nat.zero_le _⟩) (fun H locs hP hD hS => ?_)
  have hP : va_P D vwCl (wC cI cZ cO x a t b ck Ho T E Dm F S C la T1 E1 D1 F1 S1 C1 la1 Lo Se Ef gp gi am li dl) H := hP
  have hD : va_D A (wC cI cZ cO x a t b ck Ho T E Dm F S C la T1 E1 D1 F1 S1 C1 la1 Lo Se Ef gp gi am li dl) := hD
  refine lv_aload_n hx hb dX2_setHall_20 rfl (lv_at hl 0 rfl) ?_
  refine va_get (D := D) (ci := 2) (v := .ref (b 0)) (C := RX2) (T := TX2) (N := 5) hx hb hts hi_X2 hown hK hP 0 rfl rfl 0 (by decide) (hts (.fieldLink RX2 10 "Coldaisle" "settings" "LColdaisle$Settings;") (by decide +kernel)) (fun _ h9 => h9) rfl dX2_setHall_21 ?_
  refine lv_iload_n hx hb dX2_setHall_24 rfl (lv_at hl 1 rfl) ?_
  refine va_put (D := D) (ci := 1) (v := .int v) (ty := tyX1 5) (C := RX1) (T := TX1) (N := 8) hx hb hts hi_X1 tyX1 tyX1_ok nmX1 hown hK hP hD hS 16 rfl rfl 5 (by decide) (hts (.fieldLink RX2 64 "Coldaisle$Settings" "ambient" "I") (by decide +kernel)) (fun _ h9 => h9) rfl (by decide +kernel) rfl rfl (Nat.le_of_ble_eq_true rfl) dX2_setHall_25 (fun H locs hP hD hS => ?_)
  have hP : va_P D vwCl (wC cI cZ cO x a t b ck Ho T E Dm F S C la T1 E1 D1 F1 S1 C1 la1 Lo Se Ef gp gi v li dl) H := hP
  have hD : va_D A (wC cI cZ cO x a t b ck Ho T E Dm F S C la T1 E1 D1 F1 S1 C1 la1 Lo Se Ef gp gi v li dl) := hD
  refine lv_aload_n hx hb dX2_setHall_28 rfl (lv_at hl 0 rfl) ?_
  refine va_get (D := D) (ci := 2) (v := .ref (b 0)) (C := RX2) (T := TX2) (N := 5) hx hb hts hi_X2 hown hK hP 0 rfl rfl 0 (by decide) (hts (.fieldLink RX2 10 "Coldaisle" "settings" "LColdaisle$Settings;") (by decide +kernel)) (fun _ h9 => h9) rfl dX2_setHall_29 ?_
  refine lv_iload_n hx hb dX2_setHall_32 rfl (lv_at hl 2 rfl) ?_
  refine va_put (D := D) (ci := 1) (v := .int w) (ty := tyX1 6) (C := RX1) (T := TX1) (N := 8) hx hb hts hi_X1 tyX1 tyX1_ok nmX1 hown hK hP hD hS 16 rfl rfl 6 (by decide) (hts (.fieldLink RX2 67 "Coldaisle$Settings" "limit" "I") (by decide +kernel)) (fun _ h9 => h9) rfl (by decide +kernel) rfl rfl (Nat.le_of_ble_eq_true rfl) dX2_setHall_33 (fun H locs hP hD hS => ?_)
  have hP : va_P D vwCl (wC cI cZ cO x a t b ck Ho T E Dm F S C la T1 E1 D1 F1 S1 C1 la1 Lo Se Ef gp gi v w dl) H := hP
  have hD : va_D A (wC cI cZ cO x a t b ck Ho T E Dm F S C la T1 E1 D1 F1 S1 C1 la1 Lo Se Ef gp gi v w dl) := hD
  subst hQ9
  subst hA9
  exact kRet_v hx hb hr hlocks hP hS dX2_setHall_36

abbrev rmX2_setDelay : Room := { frames := 1, cells := 0, slots := 0, locals := 22 }
set_option maxHeartbeats 4000000 in
set_option maxRecDepth 100000 in
/-- setDelay -/
theorem c_X2_setDelay (l : Launch) (D : va_G) (cI cZ cO cJ : ClassId) (x a t b : Nat → Nat) (ck : Nat) (Ho T E Dm F S : Nat → Int32) (C : Nat → Nat → Int32) (la : Nat) (T1 E1 D1 F1 S1 : Nat → Int32) (C1 : Nat → Nat → Int32) (la1 : Nat) (Lo Se : Nat → Int32) (Ef : Nat → Nat → Int32) (gp gi am li : Int32) (dl : Nat) (d : Nat) (sz : Nat) (hd : d < 9) : kMi l yX2_setDelay wsX2_setDelay rmX2_setDelay D (kT cI cZ cO cJ) [.ref (x 0), .int (nI d)] (wC cI cZ cO x a t b ck Ho T E Dm F S C la T1 E1 D1 F1 S1 C1 la1 Lo Se Ef gp gi am li dl) (wC cI cZ cO x a t b ck Ho T E Dm F S C la T1 E1 D1 F1 S1 C1 la1 Lo Se Ef gp gi am li d) sz (nI dl) := by
  refine kEnter (cc := cX2_setDelay) (maxL := 3) (ret := some .int) (by decide +kernel) rfl (Nat.le_of_ble_eq_true rfl) ?_
  intro p e s m below meth c args hx hb hr hml hts hown hlocks hin hK hN A hA9 Q hQ9 hP hD hsz hS hA ls hl
  have hl : lv_has ls 3 [(0, .ref (x 0)), (1, .int (nI d))] := hl
  have hi_X2 : ∀ w ∈ u_ws RX2 TX2 5, w ∈ wsX2_setDelay := by decide +kernel
  have hi_X1 : ∀ w ∈ u_ws RX1 TX1 8, w ∈ wsX2_setDelay := by decide +kernel
  obtain ⟨H, hH9⟩ : ∃ H, H = s.heap := ⟨_, rfl⟩
  rw [← hH9] at hP ⊢
  have hS : va_S A s.heap H [] := by rw [hH9]; exact va_S.rf
  refine lv_iload_n hx hb dX2_setDelay_0 rfl (lv_at hl 1 rfl) ?_
  refine lv_iconst (v := nI 0) hx hb dX2_setDelay_1 (by decide +kernel) ?_
  refine lv_bipush (v := nI 8) hx hb dX2_setDelay_2 (by decide +kernel) ?_
  refine kCall_v (W0 := []) (W1 := []) hP hD hS hA [] rfl rfl (va_runS (As := [.int (nI d), .int (nI 0), .int (nI 8)]) (rest := []) ⟨hx, hb, hml, hown, hts⟩ (c_X2_requireWithin l D cI cZ cO cJ (nI d) (nI 0) (nI 8) H.size (nI_nlt (by omega) (by omega)) (nI_le (by omega) (by decide))) (va_cwS (rm := rmX2_requireWithin) 3 hts gX2_setDelay_X2_requireWithin rfl rfl rfl (by decide +kernel) ⟨Nat.le_of_ble_eq_true rfl, Nat.le_of_ble_eq_true rfl⟩) (kPreS hK hN hP hD [] rfl rfl) rfl rfl hl.1 rfl (lv_room (Nat.le_of_ble_eq_true rfl)) dX2_setDelay_4 ⟨Nat.zero_le _, Nat.zero_le _⟩) (fun H locs hP hD hS => ?_)
  have hP : va_P D vwCl (wC cI cZ cO x a t b ck Ho T E Dm F S C la T1 E1 D1 F1 S1 C1 la1 Lo Se Ef gp gi am li dl) H := hP
  have hD : va_D A (wC cI cZ cO x a t b ck Ho T E Dm F S C la T1 E1 D1 F1 S1 C1 la1 Lo Se Ef gp gi am li dl) := hD
  refine lv_aload_n hx hb dX2_setDelay_7 rfl (lv_at hl 0 rfl) ?_
  refine va_get (D := D) (ci := 2) (v := .ref (b 0)) (C := RX2) (T := TX2) (N := 5) hx hb hts hi_X2 hown hK hP 0 rfl rfl 0 (by decide) (hts (.fieldLink RX2 10 "Coldaisle" "settings" "LColdaisle$Settings;") (by decide +kernel)) (fun _ h9 => h9) rfl dX2_setDelay_8 ?_
  refine va_get (D := D) (ci := 1) (v := .int (nI dl)) (C := RX1) (T := TX1) (N := 8) hx hb hts hi_X1 hown hK hP 16 rfl rfl 7 (by decide) (hts (.fieldLink RX2 70 "Coldaisle$Settings" "delay" "I") (by decide +kernel)) (fun _ h9 => h9) rfl dX2_setDelay_11 ?_
  refine lv_istore_n (lv' := [(2, .int (nI dl)), (0, .ref (x 0)), (1, .int (nI d))]) hx hb dX2_setDelay_14 rfl hl (by decide) rfl (fun ls hl => ?_)
  refine lv_aload_n hx hb dX2_setDelay_15 rfl (lv_at hl 1 rfl) ?_
  refine va_get (D := D) (ci := 2) (v := .ref (b 0)) (C := RX2) (T := TX2) (N := 5) hx hb hts hi_X2 hown hK hP 0 rfl rfl 0 (by decide) (hts (.fieldLink RX2 10 "Coldaisle" "settings" "LColdaisle$Settings;") (by decide +kernel)) (fun _ h9 => h9) rfl dX2_setDelay_16 ?_
  refine lv_iload_n hx hb dX2_setDelay_19 rfl (lv_at hl 2 rfl) ?_
  refine va_put (D := D) (ci := 1) (v := .int (nI d)) (ty := tyX1 7) (C := RX1) (T := TX1) (N := 8) hx hb hts hi_X1 tyX1 tyX1_ok nmX1 hown hK hP hD hS 16 rfl rfl 7 (by decide) (hts (.fieldLink RX2 70 "Coldaisle$Settings" "delay" "I") (by decide +kernel)) (fun _ h9 => h9) rfl (by decide +kernel) rfl rfl (Nat.le_of_ble_eq_true rfl) dX2_setDelay_20 (fun H locs hP hD hS => ?_)
  have hP : va_P D vwCl (wC cI cZ cO x a t b ck Ho T E Dm F S C la T1 E1 D1 F1 S1 C1 la1 Lo Se Ef gp gi am li d) H := hP
  have hD : va_D A (wC cI cZ cO x a t b ck Ho T E Dm F S C la T1 E1 D1 F1 S1 C1 la1 Lo Se Ef gp gi am li d) := hD
  refine lv_iload_n hx hb dX2_setDelay_23 rfl (lv_at hl 0 rfl) ?_
  subst hQ9
  subst hA9
  exact kRet_i hx hb hr hlocks hP hS dX2_setDelay_24 rfl

abbrev rmX2_fail : Room := { frames := 2, cells := 0, slots := 0, locals := 42 }
set_option maxHeartbeats 4000000 in
set_option maxRecDepth 100000 in
/-- fail -/
theorem c_X2_fail (l : Launch) (D : va_G) (cI cZ cO cJ : ClassId) (x a t b : Nat → Nat) (ck : Nat) (Ho T E Dm F S : Nat → Int32) (C : Nat → Nat → Int32) (la : Nat) (T1 E1 D1 F1 S1 : Nat → Int32) (C1 : Nat → Nat → Int32) (la1 : Nat) (Lo Se : Nat → Int32) (Ef : Nat → Nat → Int32) (gp gi am li : Int32) (dl : Nat) (f : Nat) (sz : Nat) (hf : f < 8) (hF : F f = 0) : kMi l yX2_fail wsX2_fail rmX2_fail D (kT cI cZ cO cJ) [.ref (x 0), .int (nI f)] (wC cI cZ cO x a t b ck Ho T E Dm F S C la T1 E1 D1 F1 S1 C1 la1 Lo Se Ef gp gi am li dl) (wC cI cZ cO x a t b ck Ho T E Dm (upd F f (nI 1)) (upd S f (nI 0)) C la T1 E1 D1 F1 S1 C1 la1 Lo Se Ef gp gi am li dl) sz (mCnt (upd F f (nI 1)) 8) := by
  refine kEnter (cc := cX2_fail) (maxL := 2) (ret := some .int) (by decide +kernel) rfl (Nat.le_of_ble_eq_true rfl) ?_
  intro p e s m below meth c args hx hb hr hml hts hown hlocks hin hK hN A hA9 Q hQ9 hP hD hsz hS hA ls hl
  have hl : lv_has ls 2 [(0, .ref (x 0)), (1, .int (nI f))] := hl
  have hi_X2 : ∀ w ∈ u_ws RX2 TX2 5, w ∈ wsX2_fail := by decide +kernel
  have hi_X0 : ∀ w ∈ u_ws RX0 TX0 7, w ∈ wsX2_fail := by decide +kernel
  obtain ⟨H, hH9⟩ : ∃ H, H = s.heap := ⟨_, rfl⟩
  rw [← hH9] at hP ⊢
  have hS : va_S A s.heap H [] := by rw [hH9]; exact va_S.rf
  refine lv_iload_n hx hb dX2_fail_0 rfl (lv_at hl 1 rfl) ?_
  refine kCall_v (W0 := []) (W1 := []) hP hD hS hA [] rfl rfl (va_runS (As := [.int (nI f)]) (rest := []) ⟨hx, hb, hml, hown, hts⟩ (c_X2_requireFan l D cI cZ cO cJ (nI f) H.size (nI_nlt (by omega) (by omega)) (nI_le (by omega) (by decide))) (va_cwS (rm := rmX2_requireFan) 1 hts gX2_fail_X2_requireFan rfl rfl rfl (by decide +kernel) ⟨Nat.le_of_ble_eq_true rfl, Nat.le_of_ble_eq_true rfl⟩) (kPreS hK hN hP hD [] rfl rfl) rfl rfl hl.1 rfl (lv_room (Nat.le_of_ble_eq_true rfl)) dX2_fail_1 ⟨Nat.zero_le _, Nat.zero_le _⟩) (fun H locs hP hD hS => ?_)
  have hP : va_P D vwCl (wC cI cZ cO x a t b ck Ho T E Dm F S C la T1 E1 D1 F1 S1 C1 la1 Lo Se Ef gp gi am li dl) H := hP
  have hD : va_D A (wC cI cZ cO x a t b ck Ho T E Dm F S C la T1 E1 D1 F1 S1 C1 la1 Lo Se Ef gp gi am li dl) := hD
  refine lv_aload_n hx hb dX2_fail_4 rfl (lv_at hl 0 rfl) ?_
  refine va_get (D := D) (ci := 2) (v := .ref (a 0)) (C := RX2) (T := TX2) (N := 5) hx hb hts hi_X2 hown hK hP 0 rfl rfl 1 (by decide) (hts (.fieldLink RX2 19 "Coldaisle" "hall" "LColdaisle$Hall;") (by decide +kernel)) (fun _ h9 => h9) rfl dX2_fail_5 ?_
  refine va_get (D := D) (ci := 0) (v := .ref (a 4)) (C := RX0) (T := TX0) (N := 7) hx hb hts hi_X0 hown hK hP 2 rfl rfl 3 (by decide) (hts (.fieldLink RX2 73 "Coldaisle$Hall" "failed" "[Z") (by decide +kernel)) (fun _ h9 => h9) rfl dX2_fail_8 ?_
  refine lv_iload_n hx hb dX2_fail_11 rfl (lv_at hl 1 rfl) ?_
  refine k_zald hx hb hK hP 6 1 rfl rfl (i := f) (by omega) (by decide) dX2_fail_12 ?_
  refine lv_if_eq (tgt := 26) hx hb dX2_fail_13 (by decide) (fun _ => ?_) (fun c9 => absurd hF c9)
  refine lv_aload_n hx hb dX2_fail_26 rfl (lv_at hl 0 rfl) ?_
  refine va_get (D := D) (ci := 2) (v := .ref (a 0)) (C := RX2) (T := TX2) (N := 5) hx hb hts hi_X2 hown hK hP 0 rfl rfl 1 (by decide) (hts (.fieldLink RX2 19 "Coldaisle" "hall" "LColdaisle$Hall;") (by decide +kernel)) (fun _ h9 => h9) rfl dX2_fail_27 ?_
  refine lv_iload_n hx hb dX2_fail_30 rfl (lv_at hl 1 rfl) ?_
  refine kCall2_v (ws' := wC cI cZ cO x a t b ck Ho T E Dm (upd F f (nI 1)) (upd S f (nI 0)) C la T1 E1 D1 F1 S1 C1 la1 Lo Se Ef gp gi am li dl) (W0 := wH cI cZ cO a b T E Dm F S C la Lo Se Ef gp gi am li dl) (W1 := wH cI cZ cO a b T E Dm (upd F f (nI 1)) (upd S f (nI 0)) C la Lo Se Ef gp gi am li dl) hP hD hS hA pA pAR wC_hallC wC_hallC wC_hallR wC_len (by decide) (by decide) wC_hallF (va_runV (As := [.int (nI f)]) (rest := []) ⟨hx, hb, hml, hown, hts⟩ (c_X0_stopFan l D cI cZ cO cJ a b T E Dm F S C la Lo Se Ef gp gi am li dl f H.size (by omega)) (cwV (rm := rmX0_stopFan) 1 hts gX2_fail_X0_stopFan rfl rfl rfl (by decide +kernel) ⟨Nat.le_of_ble_eq_true rfl, Nat.le_of_ble_eq_true rfl⟩) (kPreV hK hN hP hD pA rfl wC_hallC (va_recv hK hP (ci := 0) (q0 := 2) rfl rfl)) rfl rfl hl.1 rfl (lv_room (Nat.le_of_ble_eq_true rfl)) dX2_fail_31 ⟨Nat.zero_le _, Nat.zero_le _⟩) (fun H locs hP hD hS => ?_)
  refine lv_aload_n hx hb dX2_fail_34 rfl (lv_at hl 0 rfl) ?_
  refine va_get (D := D) (ci := 2) (v := .ref (a 0)) (C := RX2) (T := TX2) (N := 5) hx hb hts hi_X2 hown hK hP 0 rfl rfl 1 (by decide) (hts (.fieldLink RX2 19 "Coldaisle" "hall" "LColdaisle$Hall;") (by decide +kernel)) (fun _ h9 => h9) rfl dX2_fail_35 ?_
  refine kCall2_i (ws' := wC cI cZ cO x a t b ck Ho T E Dm (upd F f (nI 1)) (upd S f (nI 0)) C la T1 E1 D1 F1 S1 C1 la1 Lo Se Ef gp gi am li dl) (W0 := wH cI cZ cO a b T E Dm (upd F f (nI 1)) (upd S f (nI 0)) C la Lo Se Ef gp gi am li dl) (W1 := wH cI cZ cO a b T E Dm (upd F f (nI 1)) (upd S f (nI 0)) C la Lo Se Ef gp gi am li dl) hP hD hS hA pA pAR wC_hallC wC_hallC wC_hallR wC_len (by decide) (by decide) wC_hallF (va_runV (As := []) (rest := []) ⟨hx, hb, hml, hown, hts⟩ (c_X0_countRunning l D cI cZ cO cJ a b T E Dm (upd F f (nI 1)) (upd S f (nI 0)) C la Lo Se Ef gp gi am li dl H.size) (cwV (rm := rmX0_countRunning) 0 hts gX2_fail_X0_countRunning rfl rfl rfl (by decide +kernel) ⟨Nat.le_of_ble_eq_true rfl, Nat.le_of_ble_eq_true rfl⟩) (kPreV hK hN hP hD pA rfl wC_hallC (va_recv hK hP (ci := 0) (q0 := 2) rfl rfl)) rfl rfl hl.1 rfl (lv_room (Nat.le_of_ble_eq_true rfl)) dX2_fail_38 ⟨Nat.zero_le _, Nat.zero_le _⟩) (fun H locs hP hD hS => ?_)
  subst hQ9
  subst hA9
  exact kRet_i hx hb hr hlocks hP hS dX2_fail_41 rfl

abbrev rmX2_repair : Room := { frames := 2, cells := 0, slots := 0, locals := 42 }
set_option maxHeartbeats 4000000 in
set_option maxRecDepth 100000 in
/-- repair -/
theorem c_X2_repair (l : Launch) (D : va_G) (cI cZ cO cJ : ClassId) (x a t b : Nat → Nat) (ck : Nat) (Ho T E Dm F S : Nat → Int32) (C : Nat → Nat → Int32) (la : Nat) (T1 E1 D1 F1 S1 : Nat → Int32) (C1 : Nat → Nat → Int32) (la1 : Nat) (Lo Se : Nat → Int32) (Ef : Nat → Nat → Int32) (gp gi am li : Int32) (dl : Nat) (f : Nat) (sz : Nat) (hf : f < 8) (hF : ¬ F f = 0) : kMi l yX2_repair wsX2_repair rmX2_repair D (kT cI cZ cO cJ) [.ref (x 0), .int (nI f)] (wC cI cZ cO x a t b ck Ho T E Dm F S C la T1 E1 D1 F1 S1 C1 la1 Lo Se Ef gp gi am li dl) (wC cI cZ cO x a t b ck Ho T E Dm (upd F f (nI 0)) S C la T1 E1 D1 F1 S1 C1 la1 Lo Se Ef gp gi am li dl) sz (mCnt (upd F f (nI 0)) 8) := by
  refine kEnter (cc := cX2_repair) (maxL := 2) (ret := some .int) (by decide +kernel) rfl (Nat.le_of_ble_eq_true rfl) ?_
  intro p e s m below meth c args hx hb hr hml hts hown hlocks hin hK hN A hA9 Q hQ9 hP hD hsz hS hA ls hl
  have hl : lv_has ls 2 [(0, .ref (x 0)), (1, .int (nI f))] := hl
  have hi_X2 : ∀ w ∈ u_ws RX2 TX2 5, w ∈ wsX2_repair := by decide +kernel
  have hi_X0 : ∀ w ∈ u_ws RX0 TX0 7, w ∈ wsX2_repair := by decide +kernel
  obtain ⟨H, hH9⟩ : ∃ H, H = s.heap := ⟨_, rfl⟩
  rw [← hH9] at hP ⊢
  have hS : va_S A s.heap H [] := by rw [hH9]; exact va_S.rf
  refine lv_iload_n hx hb dX2_repair_0 rfl (lv_at hl 1 rfl) ?_
  refine kCall_v (W0 := []) (W1 := []) hP hD hS hA [] rfl rfl (va_runS (As := [.int (nI f)]) (rest := []) ⟨hx, hb, hml, hown, hts⟩ (c_X2_requireFan l D cI cZ cO cJ (nI f) H.size (nI_nlt (by omega) (by omega)) (nI_le (by omega) (by decide))) (va_cwS (rm := rmX2_requireFan) 1 hts gX2_repair_X2_requireFan rfl rfl rfl (by decide +kernel) ⟨Nat.le_of_ble_eq_true rfl, Nat.le_of_ble_eq_true rfl⟩) (kPreS hK hN hP hD [] rfl rfl) rfl rfl hl.1 rfl (lv_room (Nat.le_of_ble_eq_true rfl)) dX2_repair_1 ⟨Nat.zero_le _, Nat.zero_le _⟩) (fun H locs hP hD hS => ?_)
  have hP : va_P D vwCl (wC cI cZ cO x a t b ck Ho T E Dm F S C la T1 E1 D1 F1 S1 C1 la1 Lo Se Ef gp gi am li dl) H := hP
  have hD : va_D A (wC cI cZ cO x a t b ck Ho T E Dm F S C la T1 E1 D1 F1 S1 C1 la1 Lo Se Ef gp gi am li dl) := hD
  refine lv_aload_n hx hb dX2_repair_4 rfl (lv_at hl 0 rfl) ?_
  refine va_get (D := D) (ci := 2) (v := .ref (a 0)) (C := RX2) (T := TX2) (N := 5) hx hb hts hi_X2 hown hK hP 0 rfl rfl 1 (by decide) (hts (.fieldLink RX2 19 "Coldaisle" "hall" "LColdaisle$Hall;") (by decide +kernel)) (fun _ h9 => h9) rfl dX2_repair_5 ?_
  refine va_get (D := D) (ci := 0) (v := .ref (a 4)) (C := RX0) (T := TX0) (N := 7) hx hb hts hi_X0 hown hK hP 2 rfl rfl 3 (by decide) (hts (.fieldLink RX2 73 "Coldaisle$Hall" "failed" "[Z") (by decide +kernel)) (fun _ h9 => h9) rfl dX2_repair_8 ?_
  refine lv_iload_n hx hb dX2_repair_11 rfl (lv_at hl 1 rfl) ?_
  refine k_zald hx hb hK hP 6 1 rfl rfl (i := f) (by omega) (by decide) dX2_repair_12 ?_
  refine lv_if_ne (tgt := 26) hx hb dX2_repair_13 (by decide) (fun _ => ?_) (fun c9 => absurd c9 hF)
  refine lv_aload_n hx hb dX2_repair_26 rfl (lv_at hl 0 rfl) ?_
  refine va_get (D := D) (ci := 2) (v := .ref (a 0)) (C := RX2) (T := TX2) (N := 5) hx hb hts hi_X2 hown hK hP 0 rfl rfl 1 (by decide) (hts (.fieldLink RX2 19 "Coldaisle" "hall" "LColdaisle$Hall;") (by decide +kernel)) (fun _ h9 => h9) rfl dX2_repair_27 ?_
  refine va_get (D := D) (ci := 0) (v := .ref (a 4)) (C := RX0) (T := TX0) (N := 7) hx hb hts hi_X0 hown hK hP 2 rfl rfl 3 (by decide) (hts (.fieldLink RX2 73 "Coldaisle$Hall" "failed" "[Z") (by decide +kernel)) (fun _ h9 => h9) rfl dX2_repair_30 ?_
  refine lv_iload_n hx hb dX2_repair_33 rfl (lv_at hl 1 rfl) ?_
  refine lv_iconst (v := nI 0) hx hb dX2_repair_34 (by decide +kernel) ?_
  refine k_zast hx hb hK hP hD hS 6 1 rfl rfl (i := f) (x := nI 0) (x' := nI 0) (by omega) (by decide) (by decide +kernel) dX2_repair_35 (fun H locs hP hD hS => ?_)
  have hP : va_P D vwCl (wC cI cZ cO x a t b ck Ho T E Dm (upd F f (nI 0)) S C la T1 E1 D1 F1 S1 C1 la1 Lo Se Ef gp gi am li dl) H := hP
  have hD : va_D A (wC cI cZ cO x a t b ck Ho T E Dm (upd F f (nI 0)) S C la T1 E1 D1 F1 S1 C1 la1 Lo Se Ef gp gi am li dl) := hD
  refine lv_aload_n hx hb dX2_repair_36 rfl (lv_at hl 0 rfl) ?_
  refine va_get (D := D) (ci := 2) (v := .ref (a 0)) (C := RX2) (T := TX2) (N := 5) hx hb hts hi_X2 hown hK hP 0 rfl rfl 1 (by decide) (hts (.fieldLink RX2 19 "Coldaisle" "hall" "LColdaisle$Hall;") (by decide +kernel)) (fun _ h9 => h9) rfl dX2_repair_37 ?_
  refine kCall2_i (ws' := wC cI cZ cO x a t b ck Ho T E Dm (upd F f (nI 0)) S C la T1 E1 D1 F1 S1 C1 la1 Lo Se Ef gp gi am li dl) (W0 := wH cI cZ cO a b T E Dm (upd F f (nI 0)) S C la Lo Se Ef gp gi am li dl) (W1 := wH cI cZ cO a b T E Dm (upd F f (nI 0)) S C la Lo Se Ef gp gi am li dl) hP hD hS hA pA pAR wC_hallC wC_hallC wC_hallR wC_len (by decide) (by decide) wC_hallF (va_runV (As := []) (rest := []) ⟨hx, hb, hml, hown, hts⟩ (c_X0_countRunning l D cI cZ cO cJ a b T E Dm (upd F f (nI 0)) S C la Lo Se Ef gp gi am li dl H.size) (cwV (rm := rmX0_countRunning) 0 hts gX2_repair_X0_countRunning rfl rfl rfl (by decide +kernel) ⟨Nat.le_of_ble_eq_true rfl, Nat.le_of_ble_eq_true rfl⟩) (kPreV hK hN hP hD pA rfl wC_hallC (va_recv hK hP (ci := 0) (q0 := 2) rfl rfl)) rfl rfl hl.1 rfl (lv_room (Nat.le_of_ble_eq_true rfl)) dX2_repair_40 ⟨Nat.zero_le _, Nat.zero_le _⟩) (fun H locs hP hD hS => ?_)
  subst hQ9
  subst hA9
  exact kRet_i hx hb hr hlocks hP hS dX2_repair_43 rfl

abbrev rmX2_command : Room := { frames := 2, cells := 0, slots := 0, locals := 43 }
set_option maxHeartbeats 4000000 in
set_option maxRecDepth 100000 in
/-- command -/
theorem c_X2_command (l : Launch) (D : va_G) (cI cZ cO cJ : ClassId) (x a t b : Nat → Nat) (ck : Nat) (Ho T E Dm F S : Nat → Int32) (C : Nat → Nat → Int32) (la : Nat) (T1 E1 D1 F1 S1 : Nat → Int32) (C1 : Nat → Nat → Int32) (la1 : Nat) (Lo Se : Nat → Int32) (Ef : Nat → Nat → Int32) (gp gi am li : Int32) (dl : Nat) (f : Nat) (sz : Nat) (hf : f < 8) (h8 : la < 9) : kMi l yX2_command wsX2_command rmX2_command D (kT cI cZ cO cJ) [.ref (x 0), .int (nI f)] (wC cI cZ cO x a t b ck Ho T E Dm F S C la T1 E1 D1 F1 S1 C1 la1 Lo Se Ef gp gi am li dl) (wC cI cZ cO x a t b ck Ho T E Dm F S C la T1 E1 D1 F1 S1 C1 la1 Lo Se Ef gp gi am li dl) sz (C la f) := by
  refine kEnter (cc := cX2_command) (maxL := 2) (ret := some .int) (by decide +kernel) rfl (Nat.le_of_ble_eq_true rfl) ?_
  intro p e s m below meth c args hx hb hr hml hts hown hlocks hin hK hN A hA9 Q hQ9 hP hD hsz hS hA ls hl
  have hl : lv_has ls 2 [(0, .ref (x 0)), (1, .int (nI f))] := hl
  have hi_X2 : ∀ w ∈ u_ws RX2 TX2 5, w ∈ wsX2_command := by decide +kernel
  have hi_X0 : ∀ w ∈ u_ws RX0 TX0 7, w ∈ wsX2_command := by decide +kernel
  obtain ⟨H, hH9⟩ : ∃ H, H = s.heap := ⟨_, rfl⟩
  rw [← hH9] at hP ⊢
  have hS : va_S A s.heap H [] := by rw [hH9]; exact va_S.rf
  refine lv_iload_n hx hb dX2_command_0 rfl (lv_at hl 1 rfl) ?_
  refine kCall_v (W0 := []) (W1 := []) hP hD hS hA [] rfl rfl (va_runS (As := [.int (nI f)]) (rest := []) ⟨hx, hb, hml, hown, hts⟩ (c_X2_requireFan l D cI cZ cO cJ (nI f) H.size (nI_nlt (by omega) (by omega)) (nI_le (by omega) (by decide))) (va_cwS (rm := rmX2_requireFan) 1 hts gX2_command_X2_requireFan rfl rfl rfl (by decide +kernel) ⟨Nat.le_of_ble_eq_true rfl, Nat.le_of_ble_eq_true rfl⟩) (kPreS hK hN hP hD [] rfl rfl) rfl rfl hl.1 rfl (lv_room (Nat.le_of_ble_eq_true rfl)) dX2_command_1 ⟨Nat.zero_le _, Nat.zero_le _⟩) (fun H locs hP hD hS => ?_)
  have hP : va_P D vwCl (wC cI cZ cO x a t b ck Ho T E Dm F S C la T1 E1 D1 F1 S1 C1 la1 Lo Se Ef gp gi am li dl) H := hP
  have hD : va_D A (wC cI cZ cO x a t b ck Ho T E Dm F S C la T1 E1 D1 F1 S1 C1 la1 Lo Se Ef gp gi am li dl) := hD
  refine lv_aload_n hx hb dX2_command_4 rfl (lv_at hl 0 rfl) ?_
  refine va_get (D := D) (ci := 2) (v := .ref (a 0)) (C := RX2) (T := TX2) (N := 5) hx hb hts hi_X2 hown hK hP 0 rfl rfl 1 (by decide) (hts (.fieldLink RX2 19 "Coldaisle" "hall" "LColdaisle$Hall;") (by decide +kernel)) (fun _ h9 => h9) rfl dX2_command_5 ?_
  refine lv_iconst (v := nI 0) hx hb dX2_command_8 (by decide +kernel) ?_
  refine kCall2_r (ws' := wC cI cZ cO x a t b ck Ho T E Dm F S C la T1 E1 D1 F1 S1 C1 la1 Lo Se Ef gp gi am li dl) (W0 := wH cI cZ cO a b T E Dm F S C la Lo Se Ef gp gi am li dl) (W1 := wH cI cZ cO a b T E Dm F S C la Lo Se Ef gp gi am li dl) hP hD hS hA pA pAR wC_hallC wC_hallC wC_hallR wC_len (by decide) (by decide) wC_hallF (va_runV (As := [.int (nI 0)]) (rest := []) ⟨hx, hb, hml, hown, hts⟩ (c_X0_commandsAgo l D cI cZ cO cJ a b T E Dm F S C la Lo Se Ef gp gi am li dl 0 H.size (by omega) (by omega)) (cwV (rm := rmX0_commandsAgo) 1 hts gX2_command_X0_commandsAgo rfl rfl rfl (by decide +kernel) ⟨Nat.le_of_ble_eq_true rfl, Nat.le_of_ble_eq_true rfl⟩) (kPreV hK hN hP hD pA rfl wC_hallC (va_recv hK hP (ci := 0) (q0 := 2) rfl rfl)) rfl rfl hl.1 rfl (lv_room (Nat.le_of_ble_eq_true rfl)) dX2_command_9 ⟨Nat.zero_le _, Nat.zero_le _⟩) (fun H locs hP hD hS => ?_)
  rw [show (la + 9 - 0) % 9 = la from by omega]
  refine lv_iload_n hx hb dX2_command_12 rfl (lv_at hl 1 rfl) ?_
  refine k_iald hx hb hK hP _ 0 (wC_ring (j := la) (by omega)) rfl (i := f) (by omega) (by decide) dX2_command_13 ?_
  subst hQ9
  subst hA9
  exact kRet_i hx hb hr hlocks hP hS dX2_command_14 rfl

abbrev rmX2_speed : Room := { frames := 2, cells := 0, slots := 0, locals := 42 }
set_option maxHeartbeats 4000000 in
set_option maxRecDepth 100000 in
/-- speed -/
theorem c_X2_speed (l : Launch) (D : va_G) (cI cZ cO cJ : ClassId) (x a t b : Nat → Nat) (ck : Nat) (Ho T E Dm F S : Nat → Int32) (C : Nat → Nat → Int32) (la : Nat) (T1 E1 D1 F1 S1 : Nat → Int32) (C1 : Nat → Nat → Int32) (la1 : Nat) (Lo Se : Nat → Int32) (Ef : Nat → Nat → Int32) (gp gi am li : Int32) (dl : Nat) (f : Nat) (sz : Nat) (hf : f < 8) : kMi l yX2_speed wsX2_speed rmX2_speed D (kT cI cZ cO cJ) [.ref (x 0), .int (nI f)] (wC cI cZ cO x a t b ck Ho T E Dm F S C la T1 E1 D1 F1 S1 C1 la1 Lo Se Ef gp gi am li dl) (wC cI cZ cO x a t b ck Ho T E Dm F S C la T1 E1 D1 F1 S1 C1 la1 Lo Se Ef gp gi am li dl) sz (S f) := by
  refine kEnter (cc := cX2_speed) (maxL := 2) (ret := some .int) (by decide +kernel) rfl (Nat.le_of_ble_eq_true rfl) ?_
  intro p e s m below meth c args hx hb hr hml hts hown hlocks hin hK hN A hA9 Q hQ9 hP hD hsz hS hA ls hl
  have hl : lv_has ls 2 [(0, .ref (x 0)), (1, .int (nI f))] := hl
  have hi_X2 : ∀ w ∈ u_ws RX2 TX2 5, w ∈ wsX2_speed := by decide +kernel
  have hi_X0 : ∀ w ∈ u_ws RX0 TX0 7, w ∈ wsX2_speed := by decide +kernel
  obtain ⟨H, hH9⟩ : ∃ H, H = s.heap := ⟨_, rfl⟩
  rw [← hH9] at hP ⊢
  have hS : va_S A s.heap H [] := by rw [hH9]; exact va_S.rf
  refine lv_iload_n hx hb dX2_speed_0 rfl (lv_at hl 1 rfl) ?_
  refine kCall_v (W0 := []) (W1 := []) hP hD hS hA [] rfl rfl (va_runS (As := [.int (nI f)]) (rest := []) ⟨hx, hb, hml, hown, hts⟩ (c_X2_requireFan l D cI cZ cO cJ (nI f) H.size (nI_nlt (by omega) (by omega)) (nI_le (by omega) (by decide))) (va_cwS (rm := rmX2_requireFan) 1 hts gX2_speed_X2_requireFan rfl rfl rfl (by decide +kernel) ⟨Nat.le_of_ble_eq_true rfl, Nat.le_of_ble_eq_true rfl⟩) (kPreS hK hN hP hD [] rfl rfl) rfl rfl hl.1 rfl (lv_room (Nat.le_of_ble_eq_true rfl)) dX2_speed_1 ⟨Nat.zero_le _, Nat.zero_le _⟩) (fun H locs hP hD hS => ?_)
  have hP : va_P D vwCl (wC cI cZ cO x a t b ck Ho T E Dm F S C la T1 E1 D1 F1 S1 C1 la1 Lo Se Ef gp gi am li dl) H := hP
  have hD : va_D A (wC cI cZ cO x a t b ck Ho T E Dm F S C la T1 E1 D1 F1 S1 C1 la1 Lo Se Ef gp gi am li dl) := hD
  refine lv_aload_n hx hb dX2_speed_4 rfl (lv_at hl 0 rfl) ?_
  refine va_get (D := D) (ci := 2) (v := .ref (a 0)) (C := RX2) (T := TX2) (N := 5) hx hb hts hi_X2 hown hK hP 0 rfl rfl 1 (by decide) (hts (.fieldLink RX2 19 "Coldaisle" "hall" "LColdaisle$Hall;") (by decide +kernel)) (fun _ h9 => h9) rfl dX2_speed_5 ?_
  refine va_get (D := D) (ci := 0) (v := .ref (a 5)) (C := RX0) (T := TX0) (N := 7) hx hb hts hi_X0 hown hK hP 2 rfl rfl 4 (by decide) (hts (.fieldLink RX2 97 "Coldaisle$Hall" "speed" "[I") (by decide +kernel)) (fun _ h9 => h9) rfl dX2_speed_8 ?_
  refine lv_iload_n hx hb dX2_speed_11 rfl (lv_at hl 1 rfl) ?_
  refine k_iald hx hb hK hP 7 0 rfl rfl (i := f) (by omega) (by decide) dX2_speed_12 ?_
  subst hQ9
  subst hA9
  exact kRet_i hx hb hr hlocks hP hS dX2_speed_13 rfl

abbrev rmX2_clock : Room := { frames := 0, cells := 0, slots := 0, locals := 0 }
set_option maxHeartbeats 4000000 in
set_option maxRecDepth 100000 in
/-- clock -/
theorem c_X2_clock (l : Launch) (D : va_G) (cI cZ cO cJ : ClassId) (x a t b : Nat → Nat) (ck : Nat) (Ho T E Dm F S : Nat → Int32) (C : Nat → Nat → Int32) (la : Nat) (T1 E1 D1 F1 S1 : Nat → Int32) (C1 : Nat → Nat → Int32) (la1 : Nat) (Lo Se : Nat → Int32) (Ef : Nat → Nat → Int32) (gp gi am li : Int32) (dl : Nat) (sz : Nat) : kMi l yX2_clock wsX2_clock rmX2_clock D (kT cI cZ cO cJ) [.ref (x 0)] (wC cI cZ cO x a t b ck Ho T E Dm F S C la T1 E1 D1 F1 S1 C1 la1 Lo Se Ef gp gi am li dl) (wC cI cZ cO x a t b ck Ho T E Dm F S C la T1 E1 D1 F1 S1 C1 la1 Lo Se Ef gp gi am li dl) sz (nI ck) := by
  refine kEnter (cc := cX2_clock) (maxL := 1) (ret := some .int) (by decide +kernel) rfl (Nat.le_of_ble_eq_true rfl) ?_
  intro p e s m below meth c args hx hb hr hml hts hown hlocks hin hK hN A hA9 Q hQ9 hP hD hsz hS hA ls hl
  have hl : lv_has ls 1 [(0, .ref (x 0))] := hl
  have hi_X2 : ∀ w ∈ u_ws RX2 TX2 5, w ∈ wsX2_clock := by decide +kernel
  obtain ⟨H, hH9⟩ : ∃ H, H = s.heap := ⟨_, rfl⟩
  rw [← hH9] at hP ⊢
  have hS : va_S A s.heap H [] := by rw [hH9]; exact va_S.rf
  refine lv_aload_n hx hb dX2_clock_0 rfl (lv_at hl 0 rfl) ?_
  refine va_get (D := D) (ci := 2) (v := .int (nI ck)) (C := RX2) (T := TX2) (N := 5) hx hb hts hi_X2 hown hK hP 0 rfl rfl 4 (by decide) (hts (.fieldLink RX2 30 "Coldaisle" "clock" "I") (by decide +kernel)) (fun _ h9 => h9) rfl dX2_clock_1 ?_
  subst hQ9
  subst hA9
  exact kRet_i hx hb hr hlocks hP hS dX2_clock_4 rfl

abbrev rmX2_temperature : Room := { frames := 2, cells := 0, slots := 0, locals := 42 }
set_option maxHeartbeats 4000000 in
set_option maxRecDepth 100000 in
/-- temperature -/
theorem c_X2_temperature (l : Launch) (D : va_G) (cI cZ cO cJ : ClassId) (x a t b : Nat → Nat) (ck : Nat) (Ho T E Dm F S : Nat → Int32) (C : Nat → Nat → Int32) (la : Nat) (T1 E1 D1 F1 S1 : Nat → Int32) (C1 : Nat → Nat → Int32) (la1 : Nat) (Lo Se : Nat → Int32) (Ef : Nat → Nat → Int32) (gp gi am li : Int32) (dl : Nat) (z : Nat) (sz : Nat) (hz : z < 6) : kMi l yX2_temperature wsX2_temperature rmX2_temperature D (kT cI cZ cO cJ) [.ref (x 0), .int (nI z)] (wC cI cZ cO x a t b ck Ho T E Dm F S C la T1 E1 D1 F1 S1 C1 la1 Lo Se Ef gp gi am li dl) (wC cI cZ cO x a t b ck Ho T E Dm F S C la T1 E1 D1 F1 S1 C1 la1 Lo Se Ef gp gi am li dl) sz (T z) := by
  refine kEnter (cc := cX2_temperature) (maxL := 2) (ret := some .int) (by decide +kernel) rfl (Nat.le_of_ble_eq_true rfl) ?_
  intro p e s m below meth c args hx hb hr hml hts hown hlocks hin hK hN A hA9 Q hQ9 hP hD hsz hS hA ls hl
  have hl : lv_has ls 2 [(0, .ref (x 0)), (1, .int (nI z))] := hl
  have hi_X2 : ∀ w ∈ u_ws RX2 TX2 5, w ∈ wsX2_temperature := by decide +kernel
  have hi_X0 : ∀ w ∈ u_ws RX0 TX0 7, w ∈ wsX2_temperature := by decide +kernel
  obtain ⟨H, hH9⟩ : ∃ H, H = s.heap := ⟨_, rfl⟩
  rw [← hH9] at hP ⊢
  have hS : va_S A s.heap H [] := by rw [hH9]; exact va_S.rf
  refine lv_iload_n hx hb dX2_temperature_0 rfl (lv_at hl 1 rfl) ?_
  refine kCall_v (W0 := []) (W1 := []) hP hD hS hA [] rfl rfl (va_runS (As := [.int (nI z)]) (rest := []) ⟨hx, hb, hml, hown, hts⟩ (c_X2_requireZone l D cI cZ cO cJ (nI z) H.size (nI_nlt (by omega) (by omega)) (nI_le (by omega) (by decide))) (va_cwS (rm := rmX2_requireZone) 1 hts gX2_temperature_X2_requireZone rfl rfl rfl (by decide +kernel) ⟨Nat.le_of_ble_eq_true rfl, Nat.le_of_ble_eq_true rfl⟩) (kPreS hK hN hP hD [] rfl rfl) rfl rfl hl.1 rfl (lv_room (Nat.le_of_ble_eq_true rfl)) dX2_temperature_1 ⟨Nat.zero_le _, Nat.zero_le _⟩) (fun H locs hP hD hS => ?_)
  have hP : va_P D vwCl (wC cI cZ cO x a t b ck Ho T E Dm F S C la T1 E1 D1 F1 S1 C1 la1 Lo Se Ef gp gi am li dl) H := hP
  have hD : va_D A (wC cI cZ cO x a t b ck Ho T E Dm F S C la T1 E1 D1 F1 S1 C1 la1 Lo Se Ef gp gi am li dl) := hD
  refine lv_aload_n hx hb dX2_temperature_4 rfl (lv_at hl 0 rfl) ?_
  refine va_get (D := D) (ci := 2) (v := .ref (a 0)) (C := RX2) (T := TX2) (N := 5) hx hb hts hi_X2 hown hK hP 0 rfl rfl 1 (by decide) (hts (.fieldLink RX2 19 "Coldaisle" "hall" "LColdaisle$Hall;") (by decide +kernel)) (fun _ h9 => h9) rfl dX2_temperature_5 ?_
  refine va_get (D := D) (ci := 0) (v := .ref (a 1)) (C := RX0) (T := TX0) (N := 7) hx hb hts hi_X0 hown hK hP 2 rfl rfl 0 (by decide) (hts (.fieldLink RX2 110 "Coldaisle$Hall" "temperature" "[I") (by decide +kernel)) (fun _ h9 => h9) rfl dX2_temperature_8 ?_
  refine lv_iload_n hx hb dX2_temperature_11 rfl (lv_at hl 1 rfl) ?_
  refine k_iald hx hb hK hP 3 0 rfl rfl (i := z) (by omega) (by decide) dX2_temperature_12 ?_
  subst hQ9
  subst hA9
  exact kRet_i hx hb hr hlocks hP hS dX2_temperature_13 rfl

abbrev rmX2_demand : Room := { frames := 2, cells := 0, slots := 0, locals := 42 }
set_option maxHeartbeats 4000000 in
set_option maxRecDepth 100000 in
/-- demand -/
theorem c_X2_demand (l : Launch) (D : va_G) (cI cZ cO cJ : ClassId) (x a t b : Nat → Nat) (ck : Nat) (Ho T E Dm F S : Nat → Int32) (C : Nat → Nat → Int32) (la : Nat) (T1 E1 D1 F1 S1 : Nat → Int32) (C1 : Nat → Nat → Int32) (la1 : Nat) (Lo Se : Nat → Int32) (Ef : Nat → Nat → Int32) (gp gi am li : Int32) (dl : Nat) (z : Nat) (sz : Nat) (hz : z < 6) : kMi l yX2_demand wsX2_demand rmX2_demand D (kT cI cZ cO cJ) [.ref (x 0), .int (nI z)] (wC cI cZ cO x a t b ck Ho T E Dm F S C la T1 E1 D1 F1 S1 C1 la1 Lo Se Ef gp gi am li dl) (wC cI cZ cO x a t b ck Ho T E Dm F S C la T1 E1 D1 F1 S1 C1 la1 Lo Se Ef gp gi am li dl) sz (Dm z) := by
  refine kEnter (cc := cX2_demand) (maxL := 2) (ret := some .int) (by decide +kernel) rfl (Nat.le_of_ble_eq_true rfl) ?_
  intro p e s m below meth c args hx hb hr hml hts hown hlocks hin hK hN A hA9 Q hQ9 hP hD hsz hS hA ls hl
  have hl : lv_has ls 2 [(0, .ref (x 0)), (1, .int (nI z))] := hl
  have hi_X2 : ∀ w ∈ u_ws RX2 TX2 5, w ∈ wsX2_demand := by decide +kernel
  have hi_X0 : ∀ w ∈ u_ws RX0 TX0 7, w ∈ wsX2_demand := by decide +kernel
  obtain ⟨H, hH9⟩ : ∃ H, H = s.heap := ⟨_, rfl⟩
  rw [← hH9] at hP ⊢
  have hS : va_S A s.heap H [] := by rw [hH9]; exact va_S.rf
  refine lv_iload_n hx hb dX2_demand_0 rfl (lv_at hl 1 rfl) ?_
  refine kCall_v (W0 := []) (W1 := []) hP hD hS hA [] rfl rfl (va_runS (As := [.int (nI z)]) (rest := []) ⟨hx, hb, hml, hown, hts⟩ (c_X2_requireZone l D cI cZ cO cJ (nI z) H.size (nI_nlt (by omega) (by omega)) (nI_le (by omega) (by decide))) (va_cwS (rm := rmX2_requireZone) 1 hts gX2_demand_X2_requireZone rfl rfl rfl (by decide +kernel) ⟨Nat.le_of_ble_eq_true rfl, Nat.le_of_ble_eq_true rfl⟩) (kPreS hK hN hP hD [] rfl rfl) rfl rfl hl.1 rfl (lv_room (Nat.le_of_ble_eq_true rfl)) dX2_demand_1 ⟨Nat.zero_le _, Nat.zero_le _⟩) (fun H locs hP hD hS => ?_)
  have hP : va_P D vwCl (wC cI cZ cO x a t b ck Ho T E Dm F S C la T1 E1 D1 F1 S1 C1 la1 Lo Se Ef gp gi am li dl) H := hP
  have hD : va_D A (wC cI cZ cO x a t b ck Ho T E Dm F S C la T1 E1 D1 F1 S1 C1 la1 Lo Se Ef gp gi am li dl) := hD
  refine lv_aload_n hx hb dX2_demand_4 rfl (lv_at hl 0 rfl) ?_
  refine va_get (D := D) (ci := 2) (v := .ref (a 0)) (C := RX2) (T := TX2) (N := 5) hx hb hts hi_X2 hown hK hP 0 rfl rfl 1 (by decide) (hts (.fieldLink RX2 19 "Coldaisle" "hall" "LColdaisle$Hall;") (by decide +kernel)) (fun _ h9 => h9) rfl dX2_demand_5 ?_
  refine va_get (D := D) (ci := 0) (v := .ref (a 3)) (C := RX0) (T := TX0) (N := 7) hx hb hts hi_X0 hown hK hP 2 rfl rfl 2 (by decide) (hts (.fieldLink RX2 113 "Coldaisle$Hall" "demand" "[I") (by decide +kernel)) (fun _ h9 => h9) rfl dX2_demand_8 ?_
  refine lv_iload_n hx hb dX2_demand_11 rfl (lv_at hl 1 rfl) ?_
  refine k_iald hx hb hK hP 5 0 rfl rfl (i := z) (by omega) (by decide) dX2_demand_12 ?_
  subst hQ9
  subst hA9
  exact kRet_i hx hb hr hlocks hP hS dX2_demand_13 rfl

abbrev rmX2_errors : Room := { frames := 2, cells := 0, slots := 0, locals := 42 }
set_option maxHeartbeats 4000000 in
set_option maxRecDepth 100000 in
/-- errors -/
theorem c_X2_errors (l : Launch) (D : va_G) (cI cZ cO cJ : ClassId) (x a t b : Nat → Nat) (ck : Nat) (Ho T E Dm F S : Nat → Int32) (C : Nat → Nat → Int32) (la : Nat) (T1 E1 D1 F1 S1 : Nat → Int32) (C1 : Nat → Nat → Int32) (la1 : Nat) (Lo Se : Nat → Int32) (Ef : Nat → Nat → Int32) (gp gi am li : Int32) (dl : Nat) (z : Nat) (sz : Nat) (hz : z < 6) : kMi l yX2_errors wsX2_errors rmX2_errors D (kT cI cZ cO cJ) [.ref (x 0), .int (nI z)] (wC cI cZ cO x a t b ck Ho T E Dm F S C la T1 E1 D1 F1 S1 C1 la1 Lo Se Ef gp gi am li dl) (wC cI cZ cO x a t b ck Ho T E Dm F S C la T1 E1 D1 F1 S1 C1 la1 Lo Se Ef gp gi am li dl) sz (E z) := by
  refine kEnter (cc := cX2_errors) (maxL := 2) (ret := some .int) (by decide +kernel) rfl (Nat.le_of_ble_eq_true rfl) ?_
  intro p e s m below meth c args hx hb hr hml hts hown hlocks hin hK hN A hA9 Q hQ9 hP hD hsz hS hA ls hl
  have hl : lv_has ls 2 [(0, .ref (x 0)), (1, .int (nI z))] := hl
  have hi_X2 : ∀ w ∈ u_ws RX2 TX2 5, w ∈ wsX2_errors := by decide +kernel
  have hi_X0 : ∀ w ∈ u_ws RX0 TX0 7, w ∈ wsX2_errors := by decide +kernel
  obtain ⟨H, hH9⟩ : ∃ H, H = s.heap := ⟨_, rfl⟩
  rw [← hH9] at hP ⊢
  have hS : va_S A s.heap H [] := by rw [hH9]; exact va_S.rf
  refine lv_iload_n hx hb dX2_errors_0 rfl (lv_at hl 1 rfl) ?_
  refine kCall_v (W0 := []) (W1 := []) hP hD hS hA [] rfl rfl (va_runS (As := [.int (nI z)]) (rest := []) ⟨hx, hb, hml, hown, hts⟩ (c_X2_requireZone l D cI cZ cO cJ (nI z) H.size (nI_nlt (by omega) (by omega)) (nI_le (by omega) (by decide))) (va_cwS (rm := rmX2_requireZone) 1 hts gX2_errors_X2_requireZone rfl rfl rfl (by decide +kernel) ⟨Nat.le_of_ble_eq_true rfl, Nat.le_of_ble_eq_true rfl⟩) (kPreS hK hN hP hD [] rfl rfl) rfl rfl hl.1 rfl (lv_room (Nat.le_of_ble_eq_true rfl)) dX2_errors_1 ⟨Nat.zero_le _, Nat.zero_le _⟩) (fun H locs hP hD hS => ?_)
  have hP : va_P D vwCl (wC cI cZ cO x a t b ck Ho T E Dm F S C la T1 E1 D1 F1 S1 C1 la1 Lo Se Ef gp gi am li dl) H := hP
  have hD : va_D A (wC cI cZ cO x a t b ck Ho T E Dm F S C la T1 E1 D1 F1 S1 C1 la1 Lo Se Ef gp gi am li dl) := hD
  refine lv_aload_n hx hb dX2_errors_4 rfl (lv_at hl 0 rfl) ?_
  refine va_get (D := D) (ci := 2) (v := .ref (a 0)) (C := RX2) (T := TX2) (N := 5) hx hb hts hi_X2 hown hK hP 0 rfl rfl 1 (by decide) (hts (.fieldLink RX2 19 "Coldaisle" "hall" "LColdaisle$Hall;") (by decide +kernel)) (fun _ h9 => h9) rfl dX2_errors_5 ?_
  refine va_get (D := D) (ci := 0) (v := .ref (a 2)) (C := RX0) (T := TX0) (N := 7) hx hb hts hi_X0 hown hK hP 2 rfl rfl 1 (by decide) (hts (.fieldLink RX2 48 "Coldaisle$Hall" "errors" "[I") (by decide +kernel)) (fun _ h9 => h9) rfl dX2_errors_8 ?_
  refine lv_iload_n hx hb dX2_errors_11 rfl (lv_at hl 1 rfl) ?_
  refine k_iald hx hb hK hP 4 0 rfl rfl (i := z) (by omega) (by decide) dX2_errors_12 ?_
  subst hQ9
  subst hA9
  exact kRet_i hx hb hr hlocks hP hS dX2_errors_13 rfl

abbrev rmX2_hotMinutes : Room := { frames := 2, cells := 0, slots := 0, locals := 42 }
set_option maxHeartbeats 4000000 in
set_option maxRecDepth 100000 in
/-- hotMinutes -/
theorem c_X2_hotMinutes (l : Launch) (D : va_G) (cI cZ cO cJ : ClassId) (x a t b : Nat → Nat) (ck : Nat) (Ho T E Dm F S : Nat → Int32) (C : Nat → Nat → Int32) (la : Nat) (T1 E1 D1 F1 S1 : Nat → Int32) (C1 : Nat → Nat → Int32) (la1 : Nat) (Lo Se : Nat → Int32) (Ef : Nat → Nat → Int32) (gp gi am li : Int32) (dl : Nat) (z : Nat) (sz : Nat) (hz : z < 6) : kMi l yX2_hotMinutes wsX2_hotMinutes rmX2_hotMinutes D (kT cI cZ cO cJ) [.ref (x 0), .int (nI z)] (wC cI cZ cO x a t b ck Ho T E Dm F S C la T1 E1 D1 F1 S1 C1 la1 Lo Se Ef gp gi am li dl) (wC cI cZ cO x a t b ck Ho T E Dm F S C la T1 E1 D1 F1 S1 C1 la1 Lo Se Ef gp gi am li dl) sz (Ho z) := by
  refine kEnter (cc := cX2_hotMinutes) (maxL := 2) (ret := some .int) (by decide +kernel) rfl (Nat.le_of_ble_eq_true rfl) ?_
  intro p e s m below meth c args hx hb hr hml hts hown hlocks hin hK hN A hA9 Q hQ9 hP hD hsz hS hA ls hl
  have hl : lv_has ls 2 [(0, .ref (x 0)), (1, .int (nI z))] := hl
  have hi_X2 : ∀ w ∈ u_ws RX2 TX2 5, w ∈ wsX2_hotMinutes := by decide +kernel
  obtain ⟨H, hH9⟩ : ∃ H, H = s.heap := ⟨_, rfl⟩
  rw [← hH9] at hP ⊢
  have hS : va_S A s.heap H [] := by rw [hH9]; exact va_S.rf
  refine lv_iload_n hx hb dX2_hotMinutes_0 rfl (lv_at hl 1 rfl) ?_
  refine kCall_v (W0 := []) (W1 := []) hP hD hS hA [] rfl rfl (va_runS (As := [.int (nI z)]) (rest := []) ⟨hx, hb, hml, hown, hts⟩ (c_X2_requireZone l D cI cZ cO cJ (nI z) H.size (nI_nlt (by omega) (by omega)) (nI_le (by omega) (by decide))) (va_cwS (rm := rmX2_requireZone) 1 hts gX2_hotMinutes_X2_requireZone rfl rfl rfl (by decide +kernel) ⟨Nat.le_of_ble_eq_true rfl, Nat.le_of_ble_eq_true rfl⟩) (kPreS hK hN hP hD [] rfl rfl) rfl rfl hl.1 rfl (lv_room (Nat.le_of_ble_eq_true rfl)) dX2_hotMinutes_1 ⟨Nat.zero_le _, Nat.zero_le _⟩) (fun H locs hP hD hS => ?_)
  have hP : va_P D vwCl (wC cI cZ cO x a t b ck Ho T E Dm F S C la T1 E1 D1 F1 S1 C1 la1 Lo Se Ef gp gi am li dl) H := hP
  have hD : va_D A (wC cI cZ cO x a t b ck Ho T E Dm F S C la T1 E1 D1 F1 S1 C1 la1 Lo Se Ef gp gi am li dl) := hD
  refine lv_aload_n hx hb dX2_hotMinutes_4 rfl (lv_at hl 0 rfl) ?_
  refine va_get (D := D) (ci := 2) (v := .ref (x 1)) (C := RX2) (T := TX2) (N := 5) hx hb hts hi_X2 hown hK hP 0 rfl rfl 3 (by decide) (hts (.fieldLink RX2 26 "Coldaisle" "hotMinutes" "[I") (by decide +kernel)) (fun _ h9 => h9) rfl dX2_hotMinutes_5 ?_
  refine lv_iload_n hx hb dX2_hotMinutes_8 rfl (lv_at hl 1 rfl) ?_
  refine k_iald hx hb hK hP 1 0 rfl rfl (i := z) (by omega) (by decide) dX2_hotMinutes_9 ?_
  subst hQ9
  subst hA9
  exact kRet_i hx hb hr hlocks hP hS dX2_hotMinutes_10 rfl

abbrev rmX2_hottest : Room := { frames := 0, cells := 0, slots := 0, locals := 0 }
set_option maxHeartbeats 4000000 in
set_option maxRecDepth 100000 in
/-- hottest -/
theorem c_X2_hottest (l : Launch) (D : va_G) (cI cZ cO cJ : ClassId) (x a t b : Nat → Nat) (ck : Nat) (Ho T E Dm F S : Nat → Int32) (C : Nat → Nat → Int32) (la : Nat) (T1 E1 D1 F1 S1 : Nat → Int32) (C1 : Nat → Nat → Int32) (la1 : Nat) (Lo Se : Nat → Int32) (Ef : Nat → Nat → Int32) (gp gi am li : Int32) (dl : Nat) (sz : Nat) : kMi l yX2_hottest wsX2_hottest rmX2_hottest D (kT cI cZ cO cJ) [.ref (x 0)] (wC cI cZ cO x a t b ck Ho T E Dm F S C la T1 E1 D1 F1 S1 C1 la1 Lo Se Ef gp gi am li dl) (wC cI cZ cO x a t b ck Ho T E Dm F S C la T1 E1 D1 F1 S1 C1 la1 Lo Se Ef gp gi am li dl) sz (nI (mBest T 5)) := by
  refine kEnter (cc := cX2_hottest) (maxL := 3) (ret := some .int) (by decide +kernel) rfl (Nat.le_of_ble_eq_true rfl) ?_
  intro p e s m below meth c args hx hb hr hml hts hown hlocks hin hK hN A hA9 Q hQ9 hP hD hsz hS hA ls hl
  have hl : lv_has ls 3 [(0, .ref (x 0))] := hl
  have hi_X2 : ∀ w ∈ u_ws RX2 TX2 5, w ∈ wsX2_hottest := by decide +kernel
  have hi_X0 : ∀ w ∈ u_ws RX0 TX0 7, w ∈ wsX2_hottest := by decide +kernel
  obtain ⟨H, hH9⟩ : ∃ H, H = s.heap := ⟨_, rfl⟩
  rw [← hH9] at hP ⊢
  have hS : va_S A s.heap H [] := by rw [hH9]; exact va_S.rf
  refine lv_iconst (v := nI 0) hx hb dX2_hottest_0 (by decide +kernel) ?_
  refine lv_istore_n (lv' := [(1, .int (nI 0)), (0, .ref (x 0))]) hx hb dX2_hottest_1 rfl hl (by decide) rfl (fun ls hl => ?_)
  refine lv_iconst (v := nI 1) hx hb dX2_hottest_2 (by decide +kernel) ?_
  refine lv_istore_n (lv' := [(2, .int (nI 1)), (1, .int (nI 0)), (0, .ref (x 0))]) hx hb dX2_hottest_3 rfl hl (by decide) rfl (fun ls hl => ?_)
  have lp : ∀ (n z : Nat), z + n = 5 → ∀ (H : Heap) (locs : List Loc), va_P D vwCl (wC cI cZ cO x a t b ck Ho T E Dm F S C la T1 E1 D1 F1 S1 C1 la1 Lo Se Ef gp gi am li dl) H → va_D A (wC cI cZ cO x a t b ck Ho T E Dm F S C la T1 E1 D1 F1 S1 C1 la1 Lo Se Ef gp gi am li dl) → va_S A s.heap H locs → ∀ ls : Array Slot, lv_has ls 3 [(0, .ref (x 0)), (1, .int (nI (mBest T z))), (2, .int (nI (z + 1)))] → W p l e rmX2_hottest s m args below meth c H locs 0 0 Q (F0 m 4 ls []) := by
    intro n
    induction n with
    | zero =>
      intro z hz H locs hP hD hS ls hl
      have hz9 : z = 5 := by omega
      subst hz9
      refine lv_iload_n hx hb dX2_hottest_4 rfl (lv_at hl 2 rfl) ?_
      refine lv_bipush (v := nI 6) hx hb dX2_hottest_5 (by decide +kernel) ?_
      refine lv_icmp_ge (tgt := 39) hx hb dX2_hottest_7 (by decide) (fun _ => ?_) (fun c9 => absurd (nI_le (Nat.le_refl 6) (by decide)) c9)
      refine lv_iload_n hx hb dX2_hottest_39 rfl (lv_at hl 1 rfl) ?_
      subst hQ9
      subst hA9
      exact kRet_i hx hb hr hlocks hP hS dX2_hottest_40 rfl
    | succ n ih =>
      intro z hz H locs hP hD hS ls hl
      have hzb : z < 5 := by omega
      have hb9 := mBest_le T z
      refine lv_iload_n hx hb dX2_hottest_4 rfl (lv_at hl 2 rfl) ?_
      refine lv_bipush (v := nI 6) hx hb dX2_hottest_5 (by decide +kernel) ?_
      refine lv_icmp_ge (tgt := 39) hx hb dX2_hottest_7 (by decide) (fun c9 => absurd c9 (nI_ge (by omega) (by decide))) (fun _ => ?_)
      refine lv_aload_n hx hb dX2_hottest_10 rfl (lv_at hl 0 rfl) ?_
      refine va_get (D := D) (ci := 2) (v := .ref (a 0)) (C := RX2) (T := TX2) (N := 5) hx hb hts hi_X2 hown hK hP 0 rfl rfl 1 (by decide) (hts (.fieldLink RX2 19 "Coldaisle" "hall" "LColdaisle$Hall;") (by decide +kernel)) (fun _ h9 => h9) rfl dX2_hottest_11 ?_
      refine va_get (D := D) (ci := 0) (v := .ref (a 1)) (C := RX0) (T := TX0) (N := 7) hx hb hts hi_X0 hown hK hP 2 rfl rfl 0 (by decide) (hts (.fieldLink RX2 110 "Coldaisle$Hall" "temperature" "[I") (by decide +kernel)) (fun _ h9 => h9) rfl dX2_hottest_14 ?_
      refine lv_iload_n hx hb dX2_hottest_17 rfl (lv_at hl 2 rfl) ?_
      refine k_iald hx hb hK hP 3 0 rfl rfl (i := z + 1) (by omega) (by decide) dX2_hottest_18 ?_
      refine lv_aload_n hx hb dX2_hottest_19 rfl (lv_at hl 0 rfl) ?_
      refine va_get (D := D) (ci := 2) (v := .ref (a 0)) (C := RX2) (T := TX2) (N := 5) hx hb hts hi_X2 hown hK hP 0 rfl rfl 1 (by decide) (hts (.fieldLink RX2 19 "Coldaisle" "hall" "LColdaisle$Hall;") (by decide +kernel)) (fun _ h9 => h9) rfl dX2_hottest_20 ?_
      refine va_get (D := D) (ci := 0) (v := .ref (a 1)) (C := RX0) (T := TX0) (N := 7) hx hb hts hi_X0 hown hK hP 2 rfl rfl 0 (by decide) (hts (.fieldLink RX2 110 "Coldaisle$Hall" "temperature" "[I") (by decide +kernel)) (fun _ h9 => h9) rfl dX2_hottest_23 ?_
      refine lv_iload_n hx hb dX2_hottest_26 rfl (lv_at hl 1 rfl) ?_
      refine k_iald hx hb hK hP 3 0 rfl rfl (i := mBest T z) (by omega) (by decide) dX2_hottest_27 ?_
      refine lv_icmp_le (tgt := 33) hx hb dX2_hottest_28 (by decide) (fun c1 => ?_) (fun c1 => ?_)
      · refine lv_iinc (v := nI (z + 1 + 1)) (lv' := [(2, .int (nI (z + 1 + 1))), (0, .ref (x 0)), (1, .int (nI (mBest T z)))]) hx hb dX2_hottest_33 hl (k := 2) rfl (k_inc _) (by decide) rfl (fun ls hl => ?_)
        refine lv_goto (tgt := 4) hx hb dX2_hottest_36 (by decide) ?_
        exact ih (z + 1) (by omega) H locs hP hD hS ls (by rw [mBest_t T z c1]; exact (lv_sub hl [1, 2, 0] rfl))
      · refine lv_iload_n hx hb dX2_hottest_31 rfl (lv_at hl 2 rfl) ?_
        refine lv_istore_n (lv' := [(1, .int (nI (z + 1))), (0, .ref (x 0)), (2, .int (nI (z + 1)))]) hx hb dX2_hottest_32 rfl hl (by decide) rfl (fun ls hl => ?_)
        refine lv_iinc (v := nI (z + 1 + 1)) (lv' := [(2, .int (nI (z + 1 + 1))), (1, .int (nI (z + 1))), (0, .ref (x 0))]) hx hb dX2_hottest_33 hl (k := 2) rfl (k_inc _) (by decide) rfl (fun ls hl => ?_)
        refine lv_goto (tgt := 4) hx hb dX2_hottest_36 (by decide) ?_
        exact ih (z + 1) (by omega) H locs hP hD hS ls (by rw [mBest_f T z c1]; exact (lv_sub hl [2, 1, 0] rfl))
  exact lp 5 0 rfl H [] hP hD hS ls (lv_sub hl [2, 1, 0] rfl)

abbrev rmX2_noteHotZones : Room := { frames := 0, cells := 0, slots := 0, locals := 0 }
set_option maxHeartbeats 4000000 in
set_option maxRecDepth 100000 in
/-- noteHotZones -/
theorem c_X2_noteHotZones (l : Launch) (D : va_G) (cI cZ cO cJ : ClassId) (x a t b : Nat → Nat) (ck : Nat) (Ho T E Dm F S : Nat → Int32) (C : Nat → Nat → Int32) (la : Nat) (T1 E1 D1 F1 S1 : Nat → Int32) (C1 : Nat → Nat → Int32) (la1 : Nat) (Lo Se : Nat → Int32) (Ef : Nat → Nat → Int32) (gp gi am li : Int32) (dl : Nat) (sz : Nat) : kMi l yX2_noteHotZones wsX2_noteHotZones rmX2_noteHotZones D (kT cI cZ cO cJ) [.ref (x 0)] (wC cI cZ cO x a t b ck Ho T E Dm F S C la T1 E1 D1 F1 S1 C1 la1 Lo Se Ef gp gi am li dl) (wC cI cZ cO x a t b ck (mFl 6 (mHo li T Ho) Ho) T E Dm F S C la T1 E1 D1 F1 S1 C1 la1 Lo Se Ef gp gi am li dl) sz (mNot li T 6) := by
  refine kEnter (cc := cX2_noteHotZones) (maxL := 3) (ret := some .int) (by decide +kernel) rfl (Nat.le_of_ble_eq_true rfl) ?_
  intro p e s m below meth c args hx hb hr hml hts hown hlocks hin hK hN A hA9 Q hQ9 hP hD hsz hS hA ls hl
  have hl : lv_has ls 3 [(0, .ref (x 0))] := hl
  have hi_X2 : ∀ w ∈ u_ws RX2 TX2 5, w ∈ wsX2_noteHotZones := by decide +kernel
  have hi_X0 : ∀ w ∈ u_ws RX0 TX0 7, w ∈ wsX2_noteHotZones := by decide +kernel
  have hi_X1 : ∀ w ∈ u_ws RX1 TX1 8, w ∈ wsX2_noteHotZones := by decide +kernel
  obtain ⟨H, hH9⟩ : ∃ H, H = s.heap := ⟨_, rfl⟩
  rw [← hH9] at hP ⊢
  have hS : va_S A s.heap H [] := by rw [hH9]; exact va_S.rf
  refine lv_iconst (v := nI 0) hx hb dX2_noteHotZones_0 (by decide +kernel) ?_
  refine lv_istore_n (lv' := [(1, .int (nI 0)), (0, .ref (x 0))]) hx hb dX2_noteHotZones_1 rfl hl (by decide) rfl (fun ls hl => ?_)
  refine lv_iconst (v := nI 0) hx hb dX2_noteHotZones_2 (by decide +kernel) ?_
  refine lv_istore_n (lv' := [(2, .int (nI 0)), (1, .int (nI 0)), (0, .ref (x 0))]) hx hb dX2_noteHotZones_3 rfl hl (by decide) rfl (fun ls hl => ?_)
  have lp : ∀ (n z : Nat), z + n = 6 → ∀ (H : Heap) (locs : List Loc), va_P D vwCl (wC cI cZ cO x a t b ck (mFl z (mHo li T Ho) Ho) T E Dm F S C la T1 E1 D1 F1 S1 C1 la1 Lo Se Ef gp gi am li dl) H → va_D A (wC cI cZ cO x a t b ck (mFl z (mHo li T Ho) Ho) T E Dm F S C la T1 E1 D1 F1 S1 C1 la1 Lo Se Ef gp gi am li dl) → va_S A s.heap H locs → ∀ ls : Array Slot, lv_has ls 3 [(0, .ref (x 0)), (1, .int (mNot li T z)), (2, .int (nI z))] → W p l e rmX2_noteHotZones s m args below meth c H locs 0 0 Q (F0 m 4 ls []) := by
    intro n
    induction n with
    | zero =>
      intro z hz H locs hP hD hS ls hl
      have hz9 : z = 6 := by omega
      subst hz9
      refine lv_iload_n hx hb dX2_noteHotZones_4 rfl (lv_at hl 2 rfl) ?_
      refine lv_bipush (v := nI 6) hx hb dX2_noteHotZones_5 (by decide +kernel) ?_
      refine lv_icmp_ge (tgt := 48) hx hb dX2_noteHotZones_7 (by decide) (fun _ => ?_) (fun c9 => absurd (nI_le (Nat.le_refl 6) (by decide)) c9)
      refine lv_iload_n hx hb dX2_noteHotZones_48 rfl (lv_at hl 1 rfl) ?_
      subst hQ9
      subst hA9
      exact kRet_i hx hb hr hlocks hP hS dX2_noteHotZones_49 rfl
    | succ n ih =>
      intro z hz H locs hP hD hS ls hl
      have hzb : z < 6 := by omega
      refine lv_iload_n hx hb dX2_noteHotZones_4 rfl (lv_at hl 2 rfl) ?_
      refine lv_bipush (v := nI 6) hx hb dX2_noteHotZones_5 (by decide +kernel) ?_
      refine lv_icmp_ge (tgt := 48) hx hb dX2_noteHotZones_7 (by decide) (fun c9 => absurd c9 (nI_ge hzb (by decide))) (fun _ => ?_)
      refine lv_aload_n hx hb dX2_noteHotZones_10 rfl (lv_at hl 0 rfl) ?_
      refine va_get (D := D) (ci := 2) (v := .ref (a 0)) (C := RX2) (T := TX2) (N := 5) hx hb hts hi_X2 hown hK hP 0 rfl rfl 1 (by decide) (hts (.fieldLink RX2 19 "Coldaisle" "hall" "LColdaisle$Hall;") (by decide +kernel)) (fun _ h9 => h9) rfl dX2_noteHotZones_11 ?_
      refine va_get (D := D) (ci := 0) (v := .ref (a 1)) (C := RX0) (T := TX0) (N := 7) hx hb hts hi_X0 hown hK hP 2 rfl rfl 0 (by decide) (hts (.fieldLink RX2 110 "Coldaisle$Hall" "temperature" "[I") (by decide +kernel)) (fun _ h9 => h9) rfl dX2_noteHotZones_14 ?_
      refine lv_iload_n hx hb dX2_noteHotZones_17 rfl (lv_at hl 2 rfl) ?_
      refine k_iald hx hb hK hP 3 0 rfl rfl (i := z) (by omega) (by decide) dX2_noteHotZones_18 ?_
      refine lv_aload_n hx hb dX2_noteHotZones_19 rfl (lv_at hl 0 rfl) ?_
      refine va_get (D := D) (ci := 2) (v := .ref (b 0)) (C := RX2) (T := TX2) (N := 5) hx hb hts hi_X2 hown hK hP 0 rfl rfl 0 (by decide) (hts (.fieldLink RX2 10 "Coldaisle" "settings" "LColdaisle$Settings;") (by decide +kernel)) (fun _ h9 => h9) rfl dX2_noteHotZones_20 ?_
      refine va_get (D := D) (ci := 1) (v := .int li) (C := RX1) (T := TX1) (N := 8) hx hb hts hi_X1 hown hK hP 16 rfl rfl 6 (by decide) (hts (.fieldLink RX2 67 "Coldaisle$Settings" "limit" "I") (by decide +kernel)) (fun _ h9 => h9) rfl dX2_noteHotZones_23 ?_
      refine lv_icmp_le (tgt := 42) hx hb dX2_noteHotZones_26 (by decide) (fun c1 => ?_) (fun c1 => ?_)
      · have e9 : mFl z (mHo li T Ho) Ho = mFl (z + 1) (mHo li T Ho) Ho := by rw [← mFl_up z (mHo li T Ho) Ho, show mHo li T Ho z = Ho z from if_pos c1]; exact (upd_same _ _ _ (mFl_at z (mHo li T Ho) Ho)).symm
        rw [e9] at hP hD
        refine lv_iinc (v := nI (z + 1)) (lv' := [(2, .int (nI (z + 1))), (0, .ref (x 0)), (1, .int (mNot li T z))]) hx hb dX2_noteHotZones_42 hl (k := 2) rfl (k_inc _) (by decide) rfl (fun ls hl => ?_)
        refine lv_goto (tgt := 4) hx hb dX2_noteHotZones_45 (by decide) ?_
        exact ih (z + 1) (by omega) H locs hP hD hS ls (by rw [mNot_t li T z c1]; exact (lv_sub hl [1, 2, 0] rfl))
      · refine lv_aload_n hx hb dX2_noteHotZones_29 rfl (lv_at hl 0 rfl) ?_
        refine va_get (D := D) (ci := 2) (v := .ref (x 1)) (C := RX2) (T := TX2) (N := 5) hx hb hts hi_X2 hown hK hP 0 rfl rfl 3 (by decide) (hts (.fieldLink RX2 26 "Coldaisle" "hotMinutes" "[I") (by decide +kernel)) (fun _ h9 => h9) rfl dX2_noteHotZones_30 ?_
        refine lv_iload_n hx hb dX2_noteHotZones_33 rfl (lv_at hl 2 rfl) ?_
        refine lv_dup2_11 hx hb dX2_noteHotZones_34 rfl rfl ?_
        refine k_iald hx hb hK hP 1 0 rfl rfl (i := z) (by omega) (by decide) dX2_noteHotZones_35 ?_
        refine k_as (mFl_at z (mHo li T Ho) Ho) ?_
        refine lv_iconst (v := nI 1) hx hb dX2_noteHotZones_36 (by decide +kernel) ?_
        refine lv_iadd hx hb dX2_noteHotZones_37 ?_
        refine k_iast hx hb hK hP hD hS 1 0 rfl rfl (i := z) (x := (Ho z) + (nI 1)) (by omega) (by decide) dX2_noteHotZones_38 (fun H locs hP hD hS => ?_)
        have hP : va_P D vwCl (wC cI cZ cO x a t b ck (upd (mFl z (mHo li T Ho) Ho) z ((Ho z) + (nI 1))) T E Dm F S C la T1 E1 D1 F1 S1 C1 la1 Lo Se Ef gp gi am li dl) H := hP
        have hD : va_D A (wC cI cZ cO x a t b ck (upd (mFl z (mHo li T Ho) Ho) z ((Ho z) + (nI 1))) T E Dm F S C la T1 E1 D1 F1 S1 C1 la1 Lo Se Ef gp gi am li dl) := hD
        refine lv_iinc (v := (mNot li T z) + 1) (lv' := [(1, .int ((mNot li T z) + 1)), (0, .ref (x 0)), (2, .int (nI z))]) hx hb dX2_noteHotZones_39 hl (k := 1) rfl rfl (by decide) rfl (fun ls hl => ?_)
        have hP : va_P D vwCl (wC cI cZ cO x a t b ck (mFl (z + 1) (mHo li T Ho) Ho) T E Dm F S C la T1 E1 D1 F1 S1 C1 la1 Lo Se Ef gp gi am li dl) H := by rw [← mFl_up z (mHo li T Ho) Ho, show mHo li T Ho z = Ho z + nI 1 from if_neg c1]; exact hP
        have hD : va_D A (wC cI cZ cO x a t b ck (mFl (z + 1) (mHo li T Ho) Ho) T E Dm F S C la T1 E1 D1 F1 S1 C1 la1 Lo Se Ef gp gi am li dl) := by rw [← mFl_up z (mHo li T Ho) Ho, show mHo li T Ho z = Ho z + nI 1 from if_neg c1]; exact hD
        refine lv_iinc (v := nI (z + 1)) (lv' := [(2, .int (nI (z + 1))), (1, .int ((mNot li T z) + 1)), (0, .ref (x 0))]) hx hb dX2_noteHotZones_42 hl (k := 2) rfl (k_inc _) (by decide) rfl (fun ls hl => ?_)
        refine lv_goto (tgt := 4) hx hb dX2_noteHotZones_45 (by decide) ?_
        exact ih (z + 1) (by omega) H locs hP hD hS ls (by rw [mNot_f li T z c1]; exact (lv_sub hl [2, 1, 0] rfl))
  exact lp 6 0 rfl H [] (by simp only [mFl_0]; exact hP) (by simp only [mFl_0]; exact hD) hS ls (lv_sub hl [2, 1, 0] rfl)

