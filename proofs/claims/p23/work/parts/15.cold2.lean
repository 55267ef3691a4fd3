abbrev rmX0_copyFrom : Room := { frames := 1, cells := 0, slots := 0, locals := 60 }
set_option maxHeartbeats 4000000 in
set_option maxRecDepth 100000 in
/-- copyFrom -/
theorem c_X0_copyFrom (l : Launch) (D : va_G) (cI cZ cO cJ : ClassId) (x a t b : Nat → Nat) (ck : Nat) (Ho T E Dm F S : Nat → Int32) (C : Nat → Nat → Int32) (la : Nat) (T1 E1 D1 F1 S1 : Nat → Int32) (C1 : Nat → Nat → Int32) (la1 : Nat) (Lo Se : Nat → Int32) (Ef : Nat → Nat → Int32) (gp gi am li : Int32) (dl : Nat) (sz : Nat) (hFb : ∀ f : Nat, f < 8 → F f = nI 0 ∨ F f = nI 1) : kMv l yX0_copyFrom wsX0_copyFrom rmX0_copyFrom D (kT cI cZ cO cJ) [.ref (t 0), .ref (a 0)] (wC cI cZ cO x a t b ck Ho T E Dm F S C la T1 E1 D1 F1 S1 C1 la1 Lo Se Ef gp gi am li dl) (wC cI cZ cO x a t b ck Ho T E Dm F S C la T E Dm F S C la Lo Se Ef gp gi am li dl) sz := by
  refine kEnter (cc := cX0_copyFrom) (maxL := 3) (ret := none) (by decide +kernel) rfl (Nat.le_of_ble_eq_true rfl) ?_
  intro p e s m below meth c args hx hb hr hml hts hown hlocks hin hK hN A hA9 Q hQ9 hP hD hsz hS hA ls hl
  have hl : lv_has ls 3 [(0, .ref (t 0)), (1, .ref (a 0))] := hl
  have hi_X0 : ∀ w ∈ u_ws RX0 TX0 7, w ∈ wsX0_copyFrom := by decide +kernel
  obtain ⟨H, hH9⟩ : ∃ H, H = s.heap := ⟨_, rfl⟩
  rw [← hH9] at hP ⊢
  have hS : va_S A s.heap H [] := by rw [hH9]; exact va_S.rf
  refine lv_aload_n hx hb dX0_copyFrom_0 rfl (lv_at hl 1 rfl) ?_
  refine va_get (D := D) (ci := 0) (v := .ref (a 1)) (C := RX0) (T := TX0) (N := 7) hx hb hts hi_X0 hown hK hP 2 rfl rfl 0 (by decide) (hts (.fieldLink RX0 9 "Coldaisle$Hall" "temperature" "[I") (by decide +kernel)) (fun _ h9 => h9) rfl dX0_copyFrom_1 ?_
  refine lv_iconst (v := nI 0) hx hb dX0_copyFrom_4 (by decide +kernel) ?_
  refine lv_aload_n hx hb dX0_copyFrom_5 rfl (lv_at hl 0 rfl) ?_
  refine va_get (D := D) (ci := 0) (v := .ref (t 1)) (C := RX0) (T := TX0) (N := 7) hx hb hts hi_X0 hown hK hP 9 rfl rfl 0 (by decide) (hts (.fieldLink RX0 9 "Coldaisle$Hall" "temperature" "[I") (by decide +kernel)) (fun _ h9 => h9) rfl dX0_copyFrom_6 ?_
  refine lv_iconst (v := nI 0) hx hb dX0_copyFrom_9 (by decide +kernel) ?_
  refine lv_bipush (v := nI 6) hx hb dX0_copyFrom_10 (by decide +kernel) ?_
  refine k_cpy hx hb (by rw [hml]; exact hl.1.symm) hown (hts (.methodLink RX0 37 arraycopyName) (by decide +kernel)) (hts (.native arraycopyName) (by decide +kernel)) (hts (.static arraycopyName) (by decide +kernel)) (hts (.initialized "java/lang/System") (by decide +kernel)) hK hP hD hS 3 10 0 rfl rfl rfl rfl (N := 6) (by decide) (Nat.le_of_ble_eq_true rfl) (Nat.le_of_ble_eq_true rfl) dX0_copyFrom_12 (fun H locs hP hD hS => ?_)
  have hP : va_P D vwCl (wC cI cZ cO x a t b ck Ho T E Dm F S C la T E1 D1 F1 S1 C1 la1 Lo Se Ef gp gi am li dl) H := hP
  have hD : va_D A (wC cI cZ cO x a t b ck Ho T E Dm F S C la T E1 D1 F1 S1 C1 la1 Lo Se Ef gp gi am li dl) := hD
  refine lv_aload_n hx hb dX0_copyFrom_15 rfl (lv_at hl 1 rfl) ?_
  refine va_get (D := D) (ci := 0) (v := .ref (a 2)) (C := RX0) (T := TX0) (N := 7) hx hb hts hi_X0 hown hK hP 2 rfl rfl 1 (by decide) (hts (.fieldLink RX0 15 "Coldaisle$Hall" "errors" "[I") (by decide +kernel)) (fun _ h9 => h9) rfl dX0_copyFrom_16 ?_
  refine lv_iconst (v := nI 0) hx hb dX0_copyFrom_19 (by decide +kernel) ?_
  refine lv_aload_n hx hb dX0_copyFrom_20 rfl (lv_at hl 0 rfl) ?_
  refine va_get (D := D) (ci := 0) (v := .ref (t 2)) (C := RX0) (T := TX0) (N := 7) hx hb hts hi_X0 hown hK hP 9 rfl rfl 1 (by decide) (hts (.fieldLink RX0 15 "Coldaisle$Hall" "errors" "[I") (by decide +kernel)) (fun _ h9 => h9) rfl dX0_copyFrom_21 ?_
  refine lv_iconst (v := nI 0) hx hb dX0_copyFrom_24 (by decide +kernel) ?_
  refine lv_bipush (v := nI 6) hx hb dX0_copyFrom_25 (by decide +kernel) ?_
  refine k_cpy hx hb (by rw [hml]; exact hl.1.symm) hown (hts (.methodLink RX0 37 arraycopyName) (by decide +kernel)) (hts (.native arraycopyName) (by decide +kernel)) (hts (.static arraycopyName) (by decide +kernel)) (hts (.initialized "java/lang/System") (by decide +kernel)) hK hP hD hS 4 11 0 rfl rfl rfl rfl (N := 6) (by decide) (Nat.le_of_ble_eq_true rfl) (Nat.le_of_ble_eq_true rfl) dX0_copyFrom_27 (fun H locs hP hD hS => ?_)
  have hP : va_P D vwCl (wC cI cZ cO x a t b ck Ho T E Dm F S C la T E D1 F1 S1 C1 la1 Lo Se Ef gp gi am li dl) H := hP
  have hD : va_D A (wC cI cZ cO x a t b ck Ho T E Dm F S C la T E D1 F1 S1 C1 la1 Lo Se Ef gp gi am li dl) := hD
  refine lv_aload_n hx hb dX0_copyFrom_30 rfl (lv_at hl 1 rfl) ?_
  refine va_get (D := D) (ci := 0) (v := .ref (a 3)) (C := RX0) (T := TX0) (N := 7) hx hb hts hi_X0 hown hK hP 2 rfl rfl 2 (by decide) (hts (.fieldLink RX0 18 "Coldaisle$Hall" "demand" "[I") (by decide +kernel)) (fun _ h9 => h9) rfl dX0_copyFrom_31 ?_
  refine lv_iconst (v := nI 0) hx hb dX0_copyFrom_34 (by decide +kernel) ?_
  refine lv_aload_n hx hb dX0_copyFrom_35 rfl (lv_at hl 0 rfl) ?_
  refine va_get (D := D) (ci := 0) (v := .ref (t 3)) (C := RX0) (T := TX0) (N := 7) hx hb hts hi_X0 hown hK hP 9 rfl rfl 2 (by decide) (hts (.fieldLink RX0 18 "Coldaisle$Hall" "demand" "[I") (by decide +kernel)) (fun _ h9 => h9) rfl dX0_copyFrom_36 ?_
  refine lv_iconst (v := nI 0) hx hb dX0_copyFrom_39 (by decide +kernel) ?_
  refine lv_bipush (v := nI 6) hx hb dX0_copyFrom_40 (by decide +kernel) ?_
  refine k_cpy hx hb (by rw [hml]; exact hl.1.symm) hown (hts (.methodLink RX0 37 arraycopyName) (by decide +kernel)) (hts (.native arraycopyName) (by decide +kernel)) (hts (.static arraycopyName) (by decide +kernel)) (hts (.initialized "java/lang/System") (by decide +kernel)) hK hP hD hS 5 12 0 rfl rfl rfl rfl (N := 6) (by decide) (Nat.le_of_ble_eq_true rfl) (Nat.le_of_ble_eq_true rfl) dX0_copyFrom_42 (fun H locs hP hD hS => ?_)
  have hP : va_P D vwCl (wC cI cZ cO x a t b ck Ho T E Dm F S C la T E Dm F1 S1 C1 la1 Lo Se Ef gp gi am li dl) H := hP
  have hD : va_D A (wC cI cZ cO x a t b ck Ho T E Dm F S C la T E Dm F1 S1 C1 la1 Lo Se Ef gp gi am li dl) := hD
  refine lv_aload_n hx hb dX0_copyFrom_45 rfl (lv_at hl 1 rfl) ?_
  refine va_get (D := D) (ci := 0) (v := .ref (a 5)) (C := RX0) (T := TX0) (N := 7) hx hb hts hi_X0 hown hK hP 2 rfl rfl 4 (by decide) (hts (.fieldLink RX0 25 "Coldaisle$Hall" "speed" "[I") (by decide +kernel)) (fun _ h9 => h9) rfl dX0_copyFrom_46 ?_
  refine lv_iconst (v := nI 0) hx hb dX0_copyFrom_49 (by decide +kernel) ?_
  refine lv_aload_n hx hb dX0_copyFrom_50 rfl (lv_at hl 0 rfl) ?_
  refine va_get (D := D) (ci := 0) (v := .ref (t 5)) (C := RX0) (T := TX0) (N := 7) hx hb hts hi_X0 hown hK hP 9 rfl rfl 4 (by decide) (hts (.fieldLink RX0 25 "Coldaisle$Hall" "speed" "[I") (by decide +kernel)) (fun _ h9 => h9) rfl dX0_copyFrom_51 ?_
  refine lv_iconst (v := nI 0) hx hb dX0_copyFrom_54 (by decide +kernel) ?_
  refine lv_bipush (v := nI 8) hx hb dX0_copyFrom_55 (by decide +kernel) ?_
  refine k_cpy hx hb (by rw [hml]; exact hl.1.symm) hown (hts (.methodLink RX0 37 arraycopyName) (by decide +kernel)) (hts (.native arraycopyName) (by decide +kernel)) (hts (.static arraycopyName) (by decide +kernel)) (hts (.initialized "java/lang/System") (by decide +kernel)) hK hP hD hS 7 14 0 rfl rfl rfl rfl (N := 8) (by decide) (Nat.le_of_ble_eq_true rfl) (Nat.le_of_ble_eq_true rfl) dX0_copyFrom_57 (fun H locs hP hD hS => ?_)
  have hP : va_P D vwCl (wC cI cZ cO x a t b ck Ho T E Dm F S C la T E Dm F1 S C1 la1 Lo Se Ef gp gi am li dl) H := hP
  have hD : va_D A (wC cI cZ cO x a t b ck Ho T E Dm F S C la T E Dm F1 S C1 la1 Lo Se Ef gp gi am li dl) := hD
  refine lv_iconst (v := nI 0) hx hb dX0_copyFrom_60 (by decide +kernel) ?_
  refine lv_istore_n (lv' := [(2, .int (nI 0)), (0, .ref (t 0)), (1, .ref (a 0))]) hx hb dX0_copyFrom_61 rfl hl (by decide) rfl (fun ls hl => ?_)
  have lp : ∀ (n z : Nat), z + n = 8 → ∀ (H : Heap) (locs : List Loc), va_P D vwCl (wC cI cZ cO x a t b ck Ho T E Dm F S C la T E Dm (mFl z F F1) S C1 la1 Lo Se Ef gp gi am li dl) H → va_D A (wC cI cZ cO x a t b ck Ho T E Dm F S C la T E Dm (mFl z F F1) S C1 la1 Lo Se Ef gp gi am li dl) → va_S A s.heap H locs → ∀ ls : Array Slot, lv_has ls 3 [(0, .ref (t 0)), (1, .ref (a 0)), (2, .int (nI z))] → W p l e rmX0_copyFrom s m args below meth c H locs 0 0 Q (F0 m 62 ls []) := by
    intro n
    induction n with
    | zero =>
      intro z hz H locs hP hD hS ls hl
      have hz9 : z = 8 := by omega
      subst hz9
      refine lv_iload_n hx hb dX0_copyFrom_62 rfl (lv_at hl 2 rfl) ?_
      refine lv_bipush (v := nI 8) hx hb dX0_copyFrom_63 (by decide +kernel) ?_
      refine lv_icmp_ge (tgt := 86) hx hb dX0_copyFrom_65 (by decide) (fun _ => ?_) (fun c9 => absurd (nI_le (Nat.le_refl 8) (by decide)) c9)
      refine lv_iconst (v := nI 0) hx hb dX0_copyFrom_86 (by decide +kernel) ?_
      refine lv_istore_n (lv' := [(2, .int (nI 0)), (0, .ref (t 0)), (1, .ref (a 0))]) hx hb dX0_copyFrom_87 rfl hl (by decide) rfl (fun ls hl => ?_)
      have lq : ∀ (n z : Nat), z + n = 9 → ∀ (H : Heap) (locs : List Loc), va_P D vwCl (wC cI cZ cO x a t b ck Ho T E Dm F S C la T E Dm (mFl 8 F F1) S (mFr z C C1) la1 Lo Se Ef gp gi am li dl) H → va_D A (wC cI cZ cO x a t b ck Ho T E Dm F S C la T E Dm (mFl 8 F F1) S (mFr z C C1) la1 Lo Se Ef gp gi am li dl) → va_S A s.heap H locs → ∀ ls : Array Slot, lv_has ls 3 [(0, .ref (t 0)), (1, .ref (a 0)), (2, .int (nI z))] → W p l e rmX0_copyFrom s m args below meth c H locs 0 0 Q (F0 m 88 ls []) := by
        intro n
        induction n with
        | zero =>
          intro z hz H locs hP hD hS ls hl
          have hz9 : z = 9 := by omega
          subst hz9
          refine lv_iload_n hx hb dX0_copyFrom_88 rfl (lv_at hl 2 rfl) ?_
          refine lv_bipush (v := nI 9) hx hb dX0_copyFrom_89 (by decide +kernel) ?_
          refine lv_icmp_ge (tgt := 119) hx hb dX0_copyFrom_91 (by decide) (fun _ => ?_) (fun c9 => absurd (nI_le (Nat.le_refl 9) (by decide)) c9)
          refine lv_aload_n hx hb dX0_copyFrom_119 rfl (lv_at hl 0 rfl) ?_
          refine lv_aload_n hx hb dX0_copyFrom_120 rfl (lv_at hl 1 rfl) ?_
          refine va_get (D := D) (ci := 0) (v := .int (nI la)) (C := RX0) (T := TX0) (N := 7) hx hb hts hi_X0 hown hK hP 2 rfl rfl 6 (by decide) (hts (.fieldLink RX0 33 "Coldaisle$Hall" "lastMinute" "I") (by decide +kernel)) (fun _ h9 => h9) rfl dX0_copyFrom_121 ?_
          refine va_put (D := D) (ci := 0) (v := .int (nI la)) (ty := tyX0 6) (C := RX0) (T := TX0) (N := 7) hx hb hts hi_X0 tyX0 tyX0_ok nmX0 hown hK hP hD hS 9 rfl rfl 6 (by decide) (hts (.fieldLink RX0 33 "Coldaisle$Hall" "lastMinute" "I") (by decide +kernel)) (fun _ h9 => h9) rfl (by decide +kernel) rfl rfl (Nat.le_of_ble_eq_true rfl) dX0_copyFrom_124 (fun H locs hP hD hS => ?_)
          have hP : va_P D vwCl (wC cI cZ cO x a t b ck Ho T E Dm F S C la T E Dm (mFl 8 F F1) S (mFr 9 C C1) la Lo Se Ef gp gi am li dl) H := hP
          have hD : va_D A (wC cI cZ cO x a t b ck Ho T E Dm F S C la T E Dm (mFl 8 F F1) S (mFr 9 C C1) la Lo Se Ef gp gi am li dl) := hD
          have hP := wC_copied (F3 := F) (C3 := C) hP (fun j hj => mFl_lt F F1 hj) (fun j hj => mFr_lt C C1 hj)
          subst hQ9
          subst hA9
          exact kRet_v hx hb hr hlocks hP hS dX0_copyFrom_127
        | succ n ih =>
          intro z hz H locs hP hD hS ls hl
          have hzb : z < 9 := by omega
          refine lv_iload_n hx hb dX0_copyFrom_88 rfl (lv_at hl 2 rfl) ?_
          refine lv_bipush (v := nI 9) hx hb dX0_copyFrom_89 (by decide +kernel) ?_
          refine lv_icmp_ge (tgt := 119) hx hb dX0_copyFrom_91 (by decide) (fun c9 => absurd c9 (nI_ge hzb (by decide))) (fun _ => ?_)
          refine lv_aload_n hx hb dX0_copyFrom_94 rfl (lv_at hl 1 rfl) ?_
          refine va_get (D := D) (ci := 0) (v := .ref (a 6)) (C := RX0) (T := TX0) (N := 7) hx hb hts hi_X0 hown hK hP 2 rfl rfl 5 (by decide) (hts (.fieldLink RX0 30 "Coldaisle$Hall" "commands" "[[I") (by decide +kernel)) (fun _ h9 => h9) rfl dX0_copyFrom_95 ?_
          refine lv_iload_n hx hb dX0_copyFrom_98 rfl (lv_at hl 2 rfl) ?_
          refine k_aald hx hb hK hP 8 2 rfl rfl (i := z) (by omega) (by decide) dX0_copyFrom_99 ?_
          refine lv_iconst (v := nI 0) hx hb dX0_copyFrom_100 (by decide +kernel) ?_
          refine lv_aload_n hx hb dX0_copyFrom_101 rfl (lv_at hl 0 rfl) ?_
          refine va_get (D := D) (ci := 0) (v := .ref (t 6)) (C := RX0) (T := TX0) (N := 7) hx hb hts hi_X0 hown hK hP 9 rfl rfl 5 (by decide) (hts (.fieldLink RX0 30 "Coldaisle$Hall" "commands" "[[I") (by decide +kernel)) (fun _ h9 => h9) rfl dX0_copyFrom_102 ?_
          refine lv_iload_n hx hb dX0_copyFrom_105 rfl (lv_at hl 2 rfl) ?_
          refine k_aald hx hb hK hP 15 2 rfl rfl (i := z) (by omega) (by decide) dX0_copyFrom_106 ?_
          refine lv_iconst (v := nI 0) hx hb dX0_copyFrom_107 (by decide +kernel) ?_
          refine lv_bipush (v := nI 8) hx hb dX0_copyFrom_108 (by decide +kernel) ?_
          refine k_cpy hx hb (by rw [hml]; exact hl.1.symm) hown (hts (.methodLink RX0 37 arraycopyName) (by decide +kernel)) (hts (.native arraycopyName) (by decide +kernel)) (hts (.static arraycopyName) (by decide +kernel)) (hts (.initialized "java/lang/System") (by decide +kernel)) hK hP hD hS _ _ 0 (wC_ring (j := z) (by omega)) (wC_tring (j := z) (by omega)) rfl rfl (N := 8) (by decide) (Nat.le_of_ble_eq_true rfl) (Nat.le_of_ble_eq_true rfl) dX0_copyFrom_110 (fun H locs hP hD hS => ?_)
          rw [wC_tring_set (j := z) (by omega)] at hP hD
          have hP : va_P D vwCl (wC cI cZ cO x a t b ck Ho T E Dm F S C la T E Dm (mFl 8 F F1) S (mFr (z + 1) C C1) la1 Lo Se Ef gp gi am li dl) H := by rw [← mFr_up z C C1]; exact hP
          have hD : va_D A (wC cI cZ cO x a t b ck Ho T E Dm F S C la T E Dm (mFl 8 F F1) S (mFr (z + 1) C C1) la1 Lo Se Ef gp gi am li dl) := by rw [← mFr_up z C C1]; exact hD
          refine lv_iinc (v := nI (z + 1)) (lv' := [(2, .int (nI (z + 1))), (0, .ref (t 0)), (1, .ref (a 0))]) hx hb dX0_copyFrom_113 hl (k := 2) rfl (k_inc _) (by decide) rfl (fun ls hl => ?_)
          refine lv_goto (tgt := 88) hx hb dX0_copyFrom_116 (by decide) ?_
          exact ih (z + 1) (by omega) H locs hP hD hS ls (lv_sub hl [1, 2, 0] rfl)
      exact lq 9 0 rfl H locs (by rw [mFr_0]; exact hP) (by rw [mFr_0]; exact hD) hS ls (lv_sub hl [1, 2, 0] rfl)
    | succ n ih =>
      intro z hz H locs hP hD hS ls hl
      have hzb : z < 8 := by omega
      refine lv_iload_n hx hb dX0_copyFrom_62 rfl (lv_at hl 2 rfl) ?_
      refine lv_bipush (v := nI 8) hx hb dX0_copyFrom_63 (by decide +kernel) ?_
      refine lv_icmp_ge (tgt := 86) hx hb dX0_copyFrom_65 (by decide) (fun c9 => absurd c9 (nI_ge hzb (by decide))) (fun _ => ?_)
      refine lv_aload_n hx hb dX0_copyFrom_68 rfl (lv_at hl 0 rfl) ?_
      refine va_get (D := D) (ci := 0) (v := .ref (t 4)) (C := RX0) (T := TX0) (N := 7) hx hb hts hi_X0 hown hK hP 9 rfl rfl 3 (by decide) (hts (.fieldLink RX0 21 "Coldaisle$Hall" "failed" "[Z") (by decide +kernel)) (fun _ h9 => h9) rfl dX0_copyFrom_69 ?_
      refine lv_iload_n hx hb dX0_copyFrom_72 rfl (lv_at hl 2 rfl) ?_
      refine lv_aload_n hx hb dX0_copyFrom_73 rfl (lv_at hl 1 rfl) ?_
      refine va_get (D := D) (ci := 0) (v := .ref (a 4)) (C := RX0) (T := TX0) (N := 7) hx hb hts hi_X0 hown hK hP 2 rfl rfl 3 (by decide) (hts (.fieldLink RX0 21 "Coldaisle$Hall" "failed" "[Z") (by decide +kernel)) (fun _ h9 => h9) rfl dX0_copyFrom_74 ?_
      refine lv_iload_n hx hb dX0_copyFrom_77 rfl (lv_at hl 2 rfl) ?_
      refine k_zald hx hb hK hP 6 1 rfl rfl (i := z) (by omega) (by decide) dX0_copyFrom_78 ?_
      refine k_zast hx hb hK hP hD hS 13 1 rfl rfl (i := z) (x := F z) (x' := F z) (by omega) (by decide) (by rcases hFb z (by omega) with h9 | h9 <;> rw [h9] <;> decide +kernel) dX0_copyFrom_79 (fun H locs hP hD hS => ?_)
      have hP : va_P D vwCl (wC cI cZ cO x a t b ck Ho T E Dm F S C la T E Dm (upd (mFl z F F1) z (F z)) S C1 la1 Lo Se Ef gp gi am li dl) H := hP
      have hD : va_D A (wC cI cZ cO x a t b ck Ho T E Dm F S C la T E Dm (upd (mFl z F F1) z (F z)) S C1 la1 Lo Se Ef gp gi am li dl) := hD
      have hP : va_P D vwCl (wC cI cZ cO x a t b ck Ho T E Dm F S C la T E Dm (mFl (z + 1) F F1) S C1 la1 Lo Se Ef gp gi am li dl) H := by rw [← mFl_up z F F1]; exact hP
      have hD : va_D A (wC cI cZ cO x a t b ck Ho T E Dm F S C la T E Dm (mFl (z + 1) F F1) S C1 la1 Lo Se Ef gp gi am li dl) := by rw [← mFl_up z F F1]; exact hD
      refine lv_iinc (v := nI (z + 1)) (lv' := [(2, .int (nI (z + 1))), (0, .ref (t 0)), (1, .ref (a 0))]) hx hb dX0_copyFrom_80 hl (k := 2) rfl (k_inc _) (by decide) rfl (fun ls hl => ?_)
      refine lv_goto (tgt := 62) hx hb dX0_copyFrom_83 (by decide) ?_
      exact ih (z + 1) (by omega) H locs hP hD hS ls (lv_sub hl [1, 2, 0] rfl)
  exact lp 8 0 rfl H locs (by simp only [mFl_0]; exact hP) (by simp only [mFl_0]; exact hD) hS ls (lv_sub hl [1, 2, 0] rfl)

abbrev rmX2_pass : Room := { frames := 4, cells := 0, slots := 0, locals := 92 }
set_option maxHeartbeats 4000000 in
set_option maxRecDepth 100000 in
/-- pass -/
theorem c_X2_pass (l : Launch) (D : va_G) (cI cZ cO cJ : ClassId) (x a t b : Nat → Nat) (ck : Nat) (Ho : Nat → Int32) (σ : HS) (T1 E1 D1 F1 S1 : Nat → Int32) (C1 : Nat → Nat → Int32) (la1 : Nat) (Lo Se : Nat → Int32) (Ef : Nat → Nat → Int32) (gp gi am li : Int32) (dl : Nat) (nm : Nat) (sz : Nat) (h1 : 0 < nm) (h2 : nm ≤ 300) (h8 : sL σ < 9) (h9 : dl < 9) (h10 : ck + nm ≤ 100000) : kMi l yX2_pass wsX2_pass rmX2_pass D (kT cI cZ cO cJ) [.ref (x 0), .int (nI nm)] (wC cI cZ cO x a t b ck Ho (sT σ) (sE σ) (sD σ) (sF σ) (sS σ) (sC σ) (sL σ) T1 E1 D1 F1 S1 C1 la1 Lo Se Ef gp gi am li dl) (wC cI cZ cO x a t b (ck + nm) (pHo li (fun k => sT (hRun gp gi am Lo Se Ef dl k σ)) Ho nm) (sT (hRun gp gi am Lo Se Ef dl nm σ)) (sE (hRun gp gi am Lo Se Ef dl nm σ)) (sD (hRun gp gi am Lo Se Ef dl nm σ)) (sF (hRun gp gi am Lo Se Ef dl nm σ)) (sS (hRun gp gi am Lo Se Ef dl nm σ)) (sC (hRun gp gi am Lo Se Ef dl nm σ)) (sL (hRun gp gi am Lo Se Ef dl nm σ)) T1 E1 D1 F1 S1 C1 la1 Lo Se Ef gp gi am li dl) sz (pSum li (fun k => sT (hRun gp gi am Lo Se Ef dl k σ)) nm) := by
  refine kEnter (cc := cX2_pass) (maxL := 4) (ret := some .int) (by decide +kernel) rfl (Nat.le_of_ble_eq_true rfl) ?_
  intro p e s m below meth c args hx hb hr hml hts hown hlocks hin hK hN A hA9 Q hQ9 hP hD hsz hS hA ls hl
  have hl : lv_has ls 4 [(0, .ref (x 0)), (1, .int (nI nm))] := hl
  have hi_X2 : ∀ w ∈ u_ws RX2 TX2 5, w ∈ wsX2_pass := by decide +kernel
  obtain ⟨H, hH9⟩ : ∃ H, H = s.heap := ⟨_, rfl⟩
  rw [← hH9] at hP ⊢
  have hS : va_S A s.heap H [] := by rw [hH9]; exact va_S.rf
  refine lv_iload_n hx hb dX2_pass_0 rfl (lv_at hl 1 rfl) ?_
  refine lv_iconst (v := nI 1) hx hb dX2_pass_1 (by decide +kernel) ?_
  refine lv_sipush (v := nI 300) hx hb dX2_pass_2 (by decide +kernel) ?_
  refine kCall_v (W0 := []) (W1 := []) hP hD hS hA [] rfl rfl (va_runS (As := [.int (nI nm), .int (nI 1), .int (nI 300)]) (rest := []) ⟨hx, hb, hml, hown, hts⟩ (c_X2_requireWithin l D cI cZ cO cJ (nI nm) (nI 1) (nI 300) H.size (nI_nlt (by omega) (by omega)) (nI_le (by omega) (by decide))) (va_cwS (rm := rmX2_requireWithin) 3 hts gX2_pass_X2_requireWithin rfl rfl rfl (by decide +kernel) ⟨Nat.le_of_ble_eq_true rfl, Nat.le_of_ble_eq_true rfl⟩) (kPreS hK hN hP hD [] rfl rfl) rfl rfl hl.1 rfl (lv_room (Nat.le_of_ble_eq_true rfl)) dX2_pass_5 ⟨Nat.zero_le _, Nat.zero_le _⟩) (fun H locs hP hD hS => ?_)
  have hP : va_P D vwCl (wC cI cZ cO x a t b ck Ho (sT σ) (sE σ) (sD σ) (sF σ) (sS σ) (sC σ) (sL σ) T1 E1 D1 F1 S1 C1 la1 Lo Se Ef gp gi am li dl) H := hP
  have hD : va_D A (wC cI cZ cO x a t b ck Ho (sT σ) (sE σ) (sD σ) (sF σ) (sS σ) (sC σ) (sL σ) T1 E1 D1 F1 S1 C1 la1 Lo Se Ef gp gi am li dl) := hD
  refine lv_aload_n hx hb dX2_pass_8 rfl (lv_at hl 0 rfl) ?_
  refine va_get (D := D) (ci := 2) (v := .int (nI ck)) (C := RX2) (T := TX2) (N := 5) hx hb hts hi_X2 hown hK hP 0 rfl rfl 4 (by decide) (hts (.fieldLink RX2 30 "Coldaisle" "clock" "I") (by decide +kernel)) (fun _ h9 => h9) rfl dX2_pass_9 ?_
  refine lv_iload_n hx hb dX2_pass_12 rfl (lv_at hl 1 rfl) ?_
  refine lv_iadd hx hb dX2_pass_13 ?_
  refine k_as (nI_add _ _) ?_
  refine lv_ldc hx hb hown (hts (.constant RX2 100 (100000)) (by decide +kernel)) dX2_pass_14 ?_
  refine k_as (y := nI 100000) (by decide +kernel) ?_
  refine lv_icmp_le (tgt := 29) hx hb dX2_pass_16 (by decide) (fun _ => ?_) (fun c9 => absurd (nI_le h10 (by decide)) c9)
  refine lv_iconst (v := nI 0) hx hb dX2_pass_29 (by decide +kernel) ?_
  refine lv_istore_n (lv' := [(2, .int (nI 0)), (0, .ref (x 0)), (1, .int (nI nm))]) hx hb dX2_pass_30 rfl hl (by decide) rfl (fun ls hl => ?_)
  refine lv_iconst (v := nI 0) hx hb dX2_pass_31 (by decide +kernel) ?_
  refine lv_istore_n (lv' := [(3, .int (nI 0)), (2, .int (nI 0)), (0, .ref (x 0)), (1, .int (nI nm))]) hx hb dX2_pass_32 rfl hl (by decide) rfl (fun ls hl => ?_)
  have lp : ∀ (n z : Nat), z + n = nm → ∀ (H : Heap) (locs : List Loc), va_P D vwCl (wC cI cZ cO x a t b (ck + z) (pHo li (fun k => sT (hRun gp gi am Lo Se Ef dl k σ)) Ho z) (sT (hRun gp gi am Lo Se Ef dl z σ)) (sE (hRun gp gi am Lo Se Ef dl z σ)) (sD (hRun gp gi am Lo Se Ef dl z σ)) (sF (hRun gp gi am Lo Se Ef dl z σ)) (sS (hRun gp gi am Lo Se Ef dl z σ)) (sC (hRun gp gi am Lo Se Ef dl z σ)) (sL (hRun gp gi am Lo Se Ef dl z σ)) T1 E1 D1 F1 S1 C1 la1 Lo Se Ef gp gi am li dl) H → va_D A (wC cI cZ cO x a t b (ck + z) (pHo li (fun k => sT (hRun gp gi am Lo Se Ef dl k σ)) Ho z) (sT (hRun gp gi am Lo Se Ef dl z σ)) (sE (hRun gp gi am Lo Se Ef dl z σ)) (sD (hRun gp gi am Lo Se Ef dl z σ)) (sF (hRun gp gi am Lo Se Ef dl z σ)) (sS (hRun gp gi am Lo Se Ef dl z σ)) (sC (hRun gp gi am Lo Se Ef dl z σ)) (sL (hRun gp gi am Lo Se Ef dl z σ)) T1 E1 D1 F1 S1 C1 la1 Lo Se Ef gp gi am li dl) → va_S A s.heap H locs → ∀ ls : Array Slot, lv_has ls 4 [(0, .ref (x 0)), (1, .int (nI nm)), (2, .int (pSum li (fun k => sT (hRun gp gi am Lo Se Ef dl k σ)) z)), (3, .int (nI z))] → W p l e rmX2_pass s m args below meth c H locs 0 0 Q (F0 m 33 ls []) := by
    intro n
    induction n with
    | zero =>
      intro z hz H locs hP hD hS ls hl
      have hz9 : nm = z := by omega
      subst hz9
      refine lv_iload_n hx hb dX2_pass_33 rfl (lv_at hl 3 rfl) ?_
      refine lv_iload_n hx hb dX2_pass_34 rfl (lv_at hl 1 rfl) ?_
      refine lv_icmp_ge (tgt := 72) hx hb dX2_pass_35 (by decide) (fun _ => ?_) (fun c9 => absurd (nI_le (Nat.le_refl _) (by omega)) c9)
      refine lv_iload_n hx hb dX2_pass_72 rfl (lv_at hl 2 rfl) ?_
      subst hQ9
      subst hA9
      exact kRet_i hx hb hr hlocks hP hS dX2_pass_73 rfl
    | succ n ih =>
      intro z hz H locs hP hD hS ls hl
      have hzb : z < nm := by omega
      refine lv_iload_n hx hb dX2_pass_33 rfl (lv_at hl 3 rfl) ?_
      refine lv_iload_n hx hb dX2_pass_34 rfl (lv_at hl 1 rfl) ?_
      refine lv_icmp_ge (tgt := 72) hx hb dX2_pass_35 (by decide) (fun c9 => absurd c9 (nI_ge hzb (by omega))) (fun _ => ?_)
      refine lv_aload_n hx hb dX2_pass_38 rfl (lv_at hl 0 rfl) ?_
      refine va_get (D := D) (ci := 2) (v := .ref (a 0)) (C := RX2) (T := TX2) (N := 5) hx hb hts hi_X2 hown hK hP 0 rfl rfl 1 (by decide) (hts (.fieldLink RX2 19 "Coldaisle" "hall" "LColdaisle$Hall;") (by decide +kernel)) (fun _ h9 => h9) rfl dX2_pass_39 ?_
      refine lv_aload_n hx hb dX2_pass_42 rfl (lv_at hl 0 rfl) ?_
      refine va_get (D := D) (ci := 2) (v := .ref (b 0)) (C := RX2) (T := TX2) (N := 5) hx hb hts hi_X2 hown hK hP 0 rfl rfl 0 (by decide) (hts (.fieldLink RX2 10 "Coldaisle" "settings" "LColdaisle$Settings;") (by decide +kernel)) (fun _ h9 => h9) rfl dX2_pass_43 ?_
      refine kCall2_v (ws' := wC cI cZ cO x a t b (ck + z) (pHo li (fun k => sT (hRun gp gi am Lo Se Ef dl k σ)) Ho z) (nT gp gi am (sT (hRun gp gi am Lo Se Ef dl z σ)) (sE (hRun gp gi am Lo Se Ef dl z σ)) (sD (hRun gp gi am Lo Se Ef dl z σ)) (sF (hRun gp gi am Lo Se Ef dl z σ)) (sS (hRun gp gi am Lo Se Ef dl z σ)) (sC (hRun gp gi am Lo Se Ef dl z σ)) (sL (hRun gp gi am Lo Se Ef dl z σ)) Lo Se Ef dl) (nE (sT (hRun gp gi am Lo Se Ef dl z σ)) (sE (hRun gp gi am Lo Se Ef dl z σ)) Se) (nD gp gi (sT (hRun gp gi am Lo Se Ef dl z σ)) (sE (hRun gp gi am Lo Se Ef dl z σ)) (sD (hRun gp gi am Lo Se Ef dl z σ)) (sF (hRun gp gi am Lo Se Ef dl z σ)) Se Ef) (sF (hRun gp gi am Lo Se Ef dl z σ)) (nS gp gi (sT (hRun gp gi am Lo Se Ef dl z σ)) (sE (hRun gp gi am Lo Se Ef dl z σ)) (sD (hRun gp gi am Lo Se Ef dl z σ)) (sF (hRun gp gi am Lo Se Ef dl z σ)) (sS (hRun gp gi am Lo Se Ef dl z σ)) (sC (hRun gp gi am Lo Se Ef dl z σ)) (sL (hRun gp gi am Lo Se Ef dl z σ)) Se Ef dl) (nC gp gi (sT (hRun gp gi am Lo Se Ef dl z σ)) (sE (hRun gp gi am Lo Se Ef dl z σ)) (sD (hRun gp gi am Lo Se Ef dl z σ)) (sF (hRun gp gi am Lo Se Ef dl z σ)) (sC (hRun gp gi am Lo Se Ef dl z σ)) (sL (hRun gp gi am Lo Se Ef dl z σ)) Se Ef) (((sL (hRun gp gi am Lo Se Ef dl z σ)) + 1) % 9) T1 E1 D1 F1 S1 C1 la1 Lo Se Ef gp gi am li dl) (W0 := wH cI cZ cO a b (sT (hRun gp gi am Lo Se Ef dl z σ)) (sE (hRun gp gi am Lo Se Ef dl z σ)) (sD (hRun gp gi am Lo Se Ef dl z σ)) (sF (hRun gp gi am Lo Se Ef dl z σ)) (sS (hRun gp gi am Lo Se Ef dl z σ)) (sC (hRun gp gi am Lo Se Ef dl z σ)) (sL (hRun gp gi am Lo Se Ef dl z σ)) Lo Se Ef gp gi am li dl) (W1 := wH cI cZ cO a b (nT gp gi am (sT (hRun gp gi am Lo Se Ef dl z σ)) (sE (hRun gp gi am Lo Se Ef dl z σ)) (sD (hRun gp gi am Lo Se Ef dl z σ)) (sF (hRun gp gi am Lo Se Ef dl z σ)) (sS (hRun gp gi am Lo Se Ef dl z σ)) (sC (hRun gp gi am Lo Se Ef dl z σ)) (sL (hRun gp gi am Lo Se Ef dl z σ)) Lo Se Ef dl) (nE (sT (hRun gp gi am Lo Se Ef dl z σ)) (sE (hRun gp gi am Lo Se Ef dl z σ)) Se) (nD gp gi (sT (hRun gp gi am Lo Se Ef dl z σ)) (sE (hRun gp gi am Lo Se Ef dl z σ)) (sD (hRun gp gi am Lo Se Ef dl z σ)) (sF (hRun gp gi am Lo Se Ef dl z σ)) Se Ef) (sF (hRun gp gi am Lo Se Ef dl z σ)) (nS gp gi (sT (hRun gp gi am Lo Se Ef dl z σ)) (sE (hRun gp gi am Lo Se Ef dl z σ)) (sD (hRun gp gi am Lo Se Ef dl z σ)) (sF (hRun gp gi am Lo Se Ef dl z σ)) (sS (hRun gp gi am Lo Se Ef dl z σ)) (sC (hRun gp gi am Lo Se Ef dl z σ)) (sL (hRun gp gi am Lo Se Ef dl z σ)) Se Ef dl) (nC gp gi (sT (hRun gp gi am Lo Se Ef dl z σ)) (sE (hRun gp gi am Lo Se Ef dl z σ)) (sD (hRun gp gi am Lo Se Ef dl z σ)) (sF (hRun gp gi am Lo Se Ef dl z σ)) (sC (hRun gp gi am Lo Se Ef dl z σ)) (sL (hRun gp gi am Lo Se Ef dl z σ)) Se Ef) (((sL (hRun gp gi am Lo Se Ef dl z σ)) + 1) % 9) Lo Se Ef gp gi am li dl) hP hD hS hA pA pAR wC_hallC wC_hallC wC_hallR wC_len (by decide) (by decide) wC_hallF (va_runV (As := [.ref (b 0)]) (rest := []) ⟨hx, hb, hml, hown, hts⟩ (c_X0_runMinute l D cI cZ cO cJ a b (sT (hRun gp gi am Lo Se Ef dl z σ)) (sE (hRun gp gi am Lo Se Ef dl z σ)) (sD (hRun gp gi am Lo Se Ef dl z σ)) (sF (hRun gp gi am Lo Se Ef dl z σ)) (sS (hRun gp gi am Lo Se Ef dl z σ)) (sC (hRun gp gi am Lo Se Ef dl z σ)) (sL (hRun gp gi am Lo Se Ef dl z σ)) Lo Se Ef gp gi am li dl H.size (hRun_la h8 z) (h9)) (cwV (rm := rmX0_runMinute) 1 hts gX2_pass_X0_runMinute rfl rfl rfl (by decide +kernel) ⟨Nat.le_of_ble_eq_true rfl, Nat.le_of_ble_eq_true rfl⟩) (kPreV hK hN hP hD pA rfl wC_hallC (va_recv hK hP (ci := 0) (q0 := 2) rfl rfl)) rfl rfl hl.1 rfl (lv_room (Nat.le_of_ble_eq_true rfl)) dX2_pass_46 ⟨Nat.zero_le _, Nat.zero_le _⟩) (fun H locs hP hD hS => ?_)
      have hP : va_P D vwCl (wC cI cZ cO x a t b (ck + z) (pHo li (fun k => sT (hRun gp gi am Lo Se Ef dl k σ)) Ho z) (sT (hRun gp gi am Lo Se Ef dl (z + 1) σ)) (sE (hRun gp gi am Lo Se Ef dl (z + 1) σ)) (sD (hRun gp gi am Lo Se Ef dl (z + 1) σ)) (sF (hRun gp gi am Lo Se Ef dl (z + 1) σ)) (sS (hRun gp gi am Lo Se Ef dl (z + 1) σ)) (sC (hRun gp gi am Lo Se Ef dl (z + 1) σ)) (sL (hRun gp gi am Lo Se Ef dl (z + 1) σ)) T1 E1 D1 F1 S1 C1 la1 Lo Se Ef gp gi am li dl) H := hP
      have hD : va_D A (wC cI cZ cO x a t b (ck + z) (pHo li (fun k => sT (hRun gp gi am Lo Se Ef dl k σ)) Ho z) (sT (hRun gp gi am Lo Se Ef dl (z + 1) σ)) (sE (hRun gp gi am Lo Se Ef dl (z + 1) σ)) (sD (hRun gp gi am Lo Se Ef dl (z + 1) σ)) (sF (hRun gp gi am Lo Se Ef dl (z + 1) σ)) (sS (hRun gp gi am Lo Se Ef dl (z + 1) σ)) (sC (hRun gp gi am Lo Se Ef dl (z + 1) σ)) (sL (hRun gp gi am Lo Se Ef dl (z + 1) σ)) T1 E1 D1 F1 S1 C1 la1 Lo Se Ef gp gi am li dl) := hD
      refine lv_aload_n hx hb dX2_pass_49 rfl (lv_at hl 0 rfl) ?_
      refine lv_dup hx hb dX2_pass_50 rfl ?_
      refine va_get (D := D) (ci := 2) (v := .int (nI (ck + z))) (C := RX2) (T := TX2) (N := 5) hx hb hts hi_X2 hown hK hP 0 rfl rfl 4 (by decide) (hts (.fieldLink RX2 30 "Coldaisle" "clock" "I") (by decide +kernel)) (fun _ h9 => h9) rfl dX2_pass_51 ?_
      refine lv_iconst (v := nI 1) hx hb dX2_pass_54 (by decide +kernel) ?_
      refine lv_iadd hx hb dX2_pass_55 ?_
      refine k_as (nI_add _ _) ?_
      refine va_put (D := D) (ci := 2) (v := .int (nI (ck + z + 1))) (ty := tyX2 4) (C := RX2) (T := TX2) (N := 5) hx hb hts hi_X2 tyX2 tyX2_ok nmX2 hown hK hP hD hS 0 rfl rfl 4 (by decide) (hts (.fieldLink RX2 30 "Coldaisle" "clock" "I") (by decide +kernel)) (fun _ h9 => h9) rfl (by decide +kernel) rfl rfl (Nat.le_of_ble_eq_true rfl) dX2_pass_56 (fun H locs hP hD hS => ?_)
      have hP : va_P D vwCl (wC cI cZ cO x a t b (ck + z + 1) (pHo li (fun k => sT (hRun gp gi am Lo Se Ef dl k σ)) Ho z) (sT (hRun gp gi am Lo Se Ef dl (z + 1) σ)) (sE (hRun gp gi am Lo Se Ef dl (z + 1) σ)) (sD (hRun gp gi am Lo Se Ef dl (z + 1) σ)) (sF (hRun gp gi am Lo Se Ef dl (z + 1) σ)) (sS (hRun gp gi am Lo Se Ef dl (z + 1) σ)) (sC (hRun gp gi am Lo Se Ef dl (z + 1) σ)) (sL (hRun gp gi am Lo Se Ef dl (z + 1) σ)) T1 E1 D1 F1 S1 C1 la1 Lo Se Ef gp gi am li dl) H := hP
      have hD : va_D A (wC cI cZ cO x a t b (ck + z + 1) (pHo li (fun k => sT (hRun gp gi am Lo Se Ef dl k σ)) Ho z) (sT (hRun gp gi am Lo Se Ef dl (z + 1) σ)) (sE (hRun gp gi am Lo Se Ef dl (z + 1) σ)) (sD (hRun gp gi am Lo Se Ef dl (z + 1) σ)) (sF (hRun gp gi am Lo Se Ef dl (z + 1) σ)) (sS (hRun gp gi am Lo Se Ef dl (z + 1) σ)) (sC (hRun gp gi am Lo Se Ef dl (z + 1) σ)) (sL (hRun gp gi am Lo Se Ef dl (z + 1) σ)) T1 E1 D1 F1 S1 C1 la1 Lo Se Ef gp gi am li dl) := hD
      refine lv_iload_n hx hb dX2_pass_59 rfl (lv_at hl 2 rfl) ?_
      refine lv_aload_n hx hb dX2_pass_60 rfl (lv_at hl 0 rfl) ?_
      refine kCallW_i (W1 := wC cI cZ cO x a t b (ck + z + 1) (mFl 6 (mHo li (sT (hRun gp gi am Lo Se Ef dl (z + 1) σ)) (pHo li (fun k => sT (hRun gp gi am Lo Se Ef dl k σ)) Ho z)) (pHo li (fun k => sT (hRun gp gi am Lo Se Ef dl k σ)) Ho z)) (sT (hRun gp gi am Lo Se Ef dl (z + 1) σ)) (sE (hRun gp gi am Lo Se Ef dl (z + 1) σ)) (sD (hRun gp gi am Lo Se Ef dl (z + 1) σ)) (sF (hRun gp gi am Lo Se Ef dl (z + 1) σ)) (sS (hRun gp gi am Lo Se Ef dl (z + 1) σ)) (sC (hRun gp gi am Lo Se Ef dl (z + 1) σ)) (sL (hRun gp gi am Lo Se Ef dl (z + 1) σ)) T1 E1 D1 F1 S1 C1 la1 Lo Se Ef gp gi am li dl) hD hS hA rfl (va_runV (As := []) (rest := [.int (pSum li (fun k => sT (hRun gp gi am Lo Se Ef dl k σ)) z)]) ⟨hx, hb, hml, hown, hts⟩ (c_X2_noteHotZones l D cI cZ cO cJ x a t b (ck + z + 1) (pHo li (fun k => sT (hRun gp gi am Lo Se Ef dl k σ)) Ho z) (sT (hRun gp gi am Lo Se Ef dl (z + 1) σ)) (sE (hRun gp gi am Lo Se Ef dl (z + 1) σ)) (sD (hRun gp gi am Lo Se Ef dl (z + 1) σ)) (sF (hRun gp gi am Lo Se Ef dl (z + 1) σ)) (sS (hRun gp gi am Lo Se Ef dl (z + 1) σ)) (sC (hRun gp gi am Lo Se Ef dl (z + 1) σ)) (sL (hRun gp gi am Lo Se Ef dl (z + 1) σ)) T1 E1 D1 F1 S1 C1 la1 Lo Se Ef gp gi am li dl H.size) (cwV (rm := rmX2_noteHotZones) 0 hts gX2_pass_X2_noteHotZones rfl rfl rfl (by decide +kernel) ⟨Nat.le_of_ble_eq_true rfl, Nat.le_of_ble_eq_true rfl⟩) (kPreVW hK hN hP hD (va_recv hK hP (ci := 2) (q0 := 0) rfl rfl)) rfl rfl hl.1 rfl (lv_room (Nat.le_of_ble_eq_true rfl)) dX2_pass_61 ⟨Nat.zero_le _, Nat.zero_le _⟩) (fun H locs hP hD hS => ?_)
      refine lv_iadd hx hb dX2_pass_64 ?_
      refine lv_istore_n (lv' := [(2, .int ((pSum li (fun k => sT (hRun gp gi am Lo Se Ef dl k σ)) z) + (mNot li (sT (hRun gp gi am Lo Se Ef dl (z + 1) σ)) 6))), (0, .ref (x 0)), (1, .int (nI nm)), (3, .int (nI z))]) hx hb dX2_pass_65 rfl hl (by decide) rfl (fun ls hl => ?_)
      refine lv_iinc (v := nI (z + 1)) (lv' := [(3, .int (nI (z + 1))), (2, .int ((pSum li (fun k => sT (hRun gp gi am Lo Se Ef dl k σ)) z) + (mNot li (sT (hRun gp gi am Lo Se Ef dl (z + 1) σ)) 6))), (0, .ref (x 0)), (1, .int (nI nm))]) hx hb dX2_pass_66 hl (k := 3) rfl (k_inc _) (by decide) rfl (fun ls hl => ?_)
      refine lv_goto (tgt := 33) hx hb dX2_pass_69 (by decide) ?_
      have hP : va_P D vwCl (wC cI cZ cO x a t b (ck + (z + 1)) (pHo li (fun k => sT (hRun gp gi am Lo Se Ef dl k σ)) Ho (z + 1)) (sT (hRun gp gi am Lo Se Ef dl (z + 1) σ)) (sE (hRun gp gi am Lo Se Ef dl (z + 1) σ)) (sD (hRun gp gi am Lo Se Ef dl (z + 1) σ)) (sF (hRun gp gi am Lo Se Ef dl (z + 1) σ)) (sS (hRun gp gi am Lo Se Ef dl (z + 1) σ)) (sC (hRun gp gi am Lo Se Ef dl (z + 1) σ)) (sL (hRun gp gi am Lo Se Ef dl (z + 1) σ)) T1 E1 D1 F1 S1 C1 la1 Lo Se Ef gp gi am li dl) H := hP
      have hD : va_D A (wC cI cZ cO x a t b (ck + (z + 1)) (pHo li (fun k => sT (hRun gp gi am Lo Se Ef dl k σ)) Ho (z + 1)) (sT (hRun gp gi am Lo Se Ef dl (z + 1) σ)) (sE (hRun gp gi am Lo Se Ef dl (z + 1) σ)) (sD (hRun gp gi am Lo Se Ef dl (z + 1) σ)) (sF (hRun gp gi am Lo Se Ef dl (z + 1) σ)) (sS (hRun gp gi am Lo Se Ef dl (z + 1) σ)) (sC (hRun gp gi am Lo Se Ef dl (z + 1) σ)) (sL (hRun gp gi am Lo Se Ef dl (z + 1) σ)) T1 E1 D1 F1 S1 C1 la1 Lo Se Ef gp gi am li dl) := hD
      exact ih (z + 1) (by omega) H locs hP hD hS ls (lv_sub hl [2, 3, 1, 0] rfl)
  exact lp nm 0 (by omega) H locs hP hD hS ls (lv_sub hl [2, 3, 1, 0] rfl)

abbrev rmX2_greatestTemperature : Room := { frames := 4, cells := 0, slots := 0, locals := 92 }
set_option maxHeartbeats 4000000 in
set_option maxRecDepth 100000 in
/-- greatestTemperature -/
theorem c_X2_greatestTemperature_n (l : Launch) (D : va_G) (cI cZ cO cJ : ClassId) (x a t b : Nat → Nat) (ck : Nat) (Ho : Nat → Int32) (σ : HS) (T1 E1 D1 F1 S1 : Nat → Int32) (C1 : Nat → Nat → Int32) (la1 : Nat) (Lo Se : Nat → Int32) (Ef : Nat → Nat → Int32) (gp gi am li : Int32) (dl : Nat) (z0 m9 : Nat) (sz : Nat) (hz0 : z0 < 6) (hm : m9 < 60) (h8 : sL σ < 9) (h9 : dl < 9) (hFb : ∀ f : Nat, f < 8 → sF σ f = nI 0 ∨ sF σ f = nI 1) : kMi l yX2_greatestTemperature wsX2_greatestTemperature rmX2_greatestTemperature D (kT cI cZ cO cJ) [.ref (x 0), .int (nI z0), .int (nI (m9 + 1)), .int (-1)] (wC cI cZ cO x a t b ck Ho (sT σ) (sE σ) (sD σ) (sF σ) (sS σ) (sC σ) (sL σ) T1 E1 D1 F1 S1 C1 la1 Lo Se Ef gp gi am li dl) (wC cI cZ cO x a t b ck Ho (sT σ) (sE σ) (sD σ) (sF σ) (sS σ) (sC σ) (sL σ) (sT (hRun gp gi am Lo Se Ef dl (m9 + 1) σ)) (sE (hRun gp gi am Lo Se Ef dl (m9 + 1) σ)) (sD (hRun gp gi am Lo Se Ef dl (m9 + 1) σ)) (sF (hRun gp gi am Lo Se Ef dl (m9 + 1) σ)) (sS (hRun gp gi am Lo Se Ef dl (m9 + 1) σ)) (sC (hRun gp gi am Lo Se Ef dl (m9 + 1) σ)) (sL (hRun gp gi am Lo Se Ef dl (m9 + 1) σ)) Lo Se Ef gp gi am li dl) sz (gOf gp gi am Lo Se Ef dl σ z0 m9) := by
  refine kEnter (cc := cX2_greatestTemperature) (maxL := 6) (ret := some .int) (by decide +kernel) rfl (Nat.le_of_ble_eq_true rfl) ?_
  intro p e s m below meth c args hx hb hr hml hts hown hlocks hin hK hN A hA9 Q hQ9 hP hD hsz hS hA ls hl
  have hl : lv_has ls 6 [(0, .ref (x 0)), (1, .int (nI z0)), (2, .int (nI (m9 + 1))), (3, .int (-1))] := hl
  have hi_X2 : ∀ w ∈ u_ws RX2 TX2 5, w ∈ wsX2_greatestTemperature := by decide +kernel
  have hi_X0 : ∀ w ∈ u_ws RX0 TX0 7, w ∈ wsX2_greatestTemperature := by decide +kernel
  obtain ⟨H, hH9⟩ : ∃ H, H = s.heap := ⟨_, rfl⟩
  rw [← hH9] at hP ⊢
  have hS : va_S A s.heap H [] := by rw [hH9]; exact va_S.rf
  refine lv_aload_n hx hb dX2_greatestTemperature_0 rfl (lv_at hl 0 rfl) ?_
  refine va_get (D := D) (ci := 2) (v := .ref (t 0)) (C := RX2) (T := TX2) (N := 5) hx hb hts hi_X2 hown hK hP 0 rfl rfl 2 (by decide) (hts (.fieldLink RX2 23 "Coldaisle" "trial" "LColdaisle$Hall;") (by decide +kernel)) (fun _ h9 => h9) rfl dX2_greatestTemperature_1 ?_
  refine lv_aload_n hx hb dX2_greatestTemperature_4 rfl (lv_at hl 0 rfl) ?_
  refine va_get (D := D) (ci := 2) (v := .ref (a 0)) (C := RX2) (T := TX2) (N := 5) hx hb hts hi_X2 hown hK hP 0 rfl rfl 1 (by decide) (hts (.fieldLink RX2 19 "Coldaisle" "hall" "LColdaisle$Hall;") (by decide +kernel)) (fun _ h9 => h9) rfl dX2_greatestTemperature_5 ?_
  refine kCallW_v (W1 := wC cI cZ cO x a t b ck Ho (sT σ) (sE σ) (sD σ) (sF σ) (sS σ) (sC σ) (sL σ) (sT σ) (sE σ) (sD σ) (sF σ) (sS σ) (sC σ) (sL σ) Lo Se Ef gp gi am li dl) hD hS hA rfl (va_runV (As := [.ref (a 0)]) (rest := []) ⟨hx, hb, hml, hown, hts⟩ (c_X0_copyFrom l D cI cZ cO cJ x a t b ck Ho (sT σ) (sE σ) (sD σ) (sF σ) (sS σ) (sC σ) (sL σ) T1 E1 D1 F1 S1 C1 la1 Lo Se Ef gp gi am li dl H.size hFb) (cwV (rm := rmX0_copyFrom) 1 hts gX2_greatestTemperature_X0_copyFrom rfl rfl rfl (by decide +kernel) ⟨Nat.le_of_ble_eq_true rfl, Nat.le_of_ble_eq_true rfl⟩) (kPreVW hK hN hP hD (va_recv hK hP (ci := 0) (q0 := 9) rfl rfl)) rfl rfl hl.1 rfl (lv_room (Nat.le_of_ble_eq_true rfl)) dX2_greatestTemperature_8 ⟨Nat.zero_le _, Nat.zero_le _⟩) (fun H locs hP hD hS => ?_)
  refine lv_iload_n hx hb dX2_greatestTemperature_11 rfl (lv_at hl 3 rfl) ?_
  refine lv_iconst (v := (-1)) hx hb dX2_greatestTemperature_12 (by decide +kernel) ?_
  refine lv_icmp_eq (tgt := 24) hx hb dX2_greatestTemperature_13 (by decide) (fun _ => ?_) (fun c9 => absurd rfl c9)
  refine lv_aload_n hx hb dX2_greatestTemperature_24 rfl (lv_at hl 0 rfl) ?_
  refine va_get (D := D) (ci := 2) (v := .ref (t 0)) (C := RX2) (T := TX2) (N := 5) hx hb hts hi_X2 hown hK hP 0 rfl rfl 2 (by decide) (hts (.fieldLink RX2 23 "Coldaisle" "trial" "LColdaisle$Hall;") (by decide +kernel)) (fun _ h9 => h9) rfl dX2_greatestTemperature_25 ?_
  refine lv_aload_n hx hb dX2_greatestTemperature_28 rfl (lv_at hl 0 rfl) ?_
  refine va_get (D := D) (ci := 2) (v := .ref (b 0)) (C := RX2) (T := TX2) (N := 5) hx hb hts hi_X2 hown hK hP 0 rfl rfl 0 (by decide) (hts (.fieldLink RX2 10 "Coldaisle" "settings" "LColdaisle$Settings;") (by decide +kernel)) (fun _ h9 => h9) rfl dX2_greatestTemperature_29 ?_
  refine kCall2_v (ws' := wC cI cZ cO x a t b ck Ho (sT σ) (sE σ) (sD σ) (sF σ) (sS σ) (sC σ) (sL σ) (nT gp gi am (sT σ) (sE σ) (sD σ) (sF σ) (sS σ) (sC σ) (sL σ) Lo Se Ef dl) (nE (sT σ) (sE σ) Se) (nD gp gi (sT σ) (sE σ) (sD σ) (sF σ) Se Ef) (sF σ) (nS gp gi (sT σ) (sE σ) (sD σ) (sF σ) (sS σ) (sC σ) (sL σ) Se Ef dl) (nC gp gi (sT σ) (sE σ) (sD σ) (sF σ) (sC σ) (sL σ) Se Ef) (((sL σ) + 1) % 9) Lo Se Ef gp gi am li dl) (W0 := wH cI cZ cO t b (sT σ) (sE σ) (sD σ) (sF σ) (sS σ) (sC σ) (sL σ) Lo Se Ef gp gi am li dl) (W1 := wH cI cZ cO t b (nT gp gi am (sT σ) (sE σ) (sD σ) (sF σ) (sS σ) (sC σ) (sL σ) Lo Se Ef dl) (nE (sT σ) (sE σ) Se) (nD gp gi (sT σ) (sE σ) (sD σ) (sF σ) Se Ef) (sF σ) (nS gp gi (sT σ) (sE σ) (sD σ) (sF σ) (sS σ) (sC σ) (sL σ) Se Ef dl) (nC gp gi (sT σ) (sE σ) (sD σ) (sF σ) (sC σ) (sL σ) Se Ef) (((sL σ) + 1) % 9) Lo Se Ef gp gi am li dl) hP hD hS hA pT pTR wC_tryC wC_tryC wC_tryR wC_len (by decide) (by decide) wC_tryF (va_runV (As := [.ref (b 0)]) (rest := []) ⟨hx, hb, hml, hown, hts⟩ (c_X0_runMinute l D cI cZ cO cJ t b (sT σ) (sE σ) (sD σ) (sF σ) (sS σ) (sC σ) (sL σ) Lo Se Ef gp gi am li dl H.size (h8) (h9)) (cwV (rm := rmX0_runMinute) 1 hts gX2_greatestTemperature_X0_runMinute rfl rfl rfl (by decide +kernel) ⟨Nat.le_of_ble_eq_true rfl, Nat.le_of_ble_eq_true rfl⟩) (kPreV hK hN hP hD pT rfl wC_tryC (va_recv hK hP (ci := 0) (q0 := 9) rfl rfl)) rfl rfl hl.1 rfl (lv_room (Nat.le_of_ble_eq_true rfl)) dX2_greatestTemperature_32 ⟨Nat.zero_le _, Nat.zero_le _⟩) (fun H locs hP hD hS => ?_)
  have hP : va_P D vwCl (wC cI cZ cO x a t b ck Ho (sT σ) (sE σ) (sD σ) (sF σ) (sS σ) (sC σ) (sL σ) (sT (hRun gp gi am Lo Se Ef dl 1 σ)) (sE (hRun gp gi am Lo Se Ef dl 1 σ)) (sD (hRun gp gi am Lo Se Ef dl 1 σ)) (sF (hRun gp gi am Lo Se Ef dl 1 σ)) (sS (hRun gp gi am Lo Se Ef dl 1 σ)) (sC (hRun gp gi am Lo Se Ef dl 1 σ)) (sL (hRun gp gi am Lo Se Ef dl 1 σ)) Lo Se Ef gp gi am li dl) H := hP
  have hD : va_D A (wC cI cZ cO x a t b ck Ho (sT σ) (sE σ) (sD σ) (sF σ) (sS σ) (sC σ) (sL σ) (sT (hRun gp gi am Lo Se Ef dl 1 σ)) (sE (hRun gp gi am Lo Se Ef dl 1 σ)) (sD (hRun gp gi am Lo Se Ef dl 1 σ)) (sF (hRun gp gi am Lo Se Ef dl 1 σ)) (sS (hRun gp gi am Lo Se Ef dl 1 σ)) (sC (hRun gp gi am Lo Se Ef dl 1 σ)) (sL (hRun gp gi am Lo Se Ef dl 1 σ)) Lo Se Ef gp gi am li dl) := hD
  refine lv_aload_n hx hb dX2_greatestTemperature_35 rfl (lv_at hl 0 rfl) ?_
  refine va_get (D := D) (ci := 2) (v := .ref (t 0)) (C := RX2) (T := TX2) (N := 5) hx hb hts hi_X2 hown hK hP 0 rfl rfl 2 (by decide) (hts (.fieldLink RX2 23 "Coldaisle" "trial" "LColdaisle$Hall;") (by decide +kernel)) (fun _ h9 => h9) rfl dX2_greatestTemperature_36 ?_
  refine va_get (D := D) (ci := 0) (v := .ref (t 1)) (C := RX0) (T := TX0) (N := 7) hx hb hts hi_X0 hown hK hP 9 rfl rfl 0 (by decide) (hts (.fieldLink RX2 110 "Coldaisle$Hall" "temperature" "[I") (by decide +kernel)) (fun _ h9 => h9) rfl dX2_greatestTemperature_39 ?_
  refine lv_iload_n hx hb dX2_greatestTemperature_42 rfl (lv_at hl 1 rfl) ?_
  refine k_iald hx hb hK hP 10 0 rfl rfl (i := z0) (by omega) (by decide) dX2_greatestTemperature_43 ?_
  refine lv_istore (lv' := [(4, .int ((sT (hRun gp gi am Lo Se Ef dl 1 σ)) z0)), (0, .ref (x 0)), (1, .int (nI z0)), (2, .int (nI (m9 + 1))), (3, .int (-1))]) hx hb dX2_greatestTemperature_44 hl (by decide) rfl (fun ls hl => ?_)
  refine lv_iconst (v := nI 1) hx hb dX2_greatestTemperature_46 (by decide +kernel) ?_
  refine lv_istore (lv' := [(5, .int (nI 1)), (4, .int ((sT (hRun gp gi am Lo Se Ef dl 1 σ)) z0)), (0, .ref (x 0)), (1, .int (nI z0)), (2, .int (nI (m9 + 1))), (3, .int (-1))]) hx hb dX2_greatestTemperature_47 hl (by decide) rfl (fun ls hl => ?_)
  have lp : ∀ (n z : Nat), z + n = m9 → ∀ (H : Heap) (locs : List Loc), va_P D vwCl (wC cI cZ cO x a t b ck Ho (sT σ) (sE σ) (sD σ) (sF σ) (sS σ) (sC σ) (sL σ) (sT (hRun gp gi am Lo Se Ef dl (z + 1) σ)) (sE (hRun gp gi am Lo Se Ef dl (z + 1) σ)) (sD (hRun gp gi am Lo Se Ef dl (z + 1) σ)) (sF (hRun gp gi am Lo Se Ef dl (z + 1) σ)) (sS (hRun gp gi am Lo Se Ef dl (z + 1) σ)) (sC (hRun gp gi am Lo Se Ef dl (z + 1) σ)) (sL (hRun gp gi am Lo Se Ef dl (z + 1) σ)) Lo Se Ef gp gi am li dl) H → va_D A (wC cI cZ cO x a t b ck Ho (sT σ) (sE σ) (sD σ) (sF σ) (sS σ) (sC σ) (sL σ) (sT (hRun gp gi am Lo Se Ef dl (z + 1) σ)) (sE (hRun gp gi am Lo Se Ef dl (z + 1) σ)) (sD (hRun gp gi am Lo Se Ef dl (z + 1) σ)) (sF (hRun gp gi am Lo Se Ef dl (z + 1) σ)) (sS (hRun gp gi am Lo Se Ef dl (z + 1) σ)) (sC (hRun gp gi am Lo Se Ef dl (z + 1) σ)) (sL (hRun gp gi am Lo Se Ef dl (z + 1) σ)) Lo Se Ef gp gi am li dl) → va_S A s.heap H locs → ∀ ls : Array Slot, lv_has ls 6 [(0, .ref (x 0)), (1, .int (nI z0)), (2, .int (nI (m9 + 1))), (3, .int (-1)), (4, .int (gTop (fun k => sT (hRun gp gi am Lo Se Ef dl (k + 1) σ) z0) z)), (5, .int (nI (z + 1)))] → W p l e rmX2_greatestTemperature s m args below meth c H locs 0 0 Q (F0 m 49 ls []) := by
    intro n
    induction n with
    | zero =>
      intro z hz H locs hP hD hS ls hl
      have hz9 : m9 = z := by omega
      subst hz9
      refine lv_iload hx hb dX2_greatestTemperature_49 (lv_at hl 5 rfl) ?_
      refine lv_iload_n hx hb dX2_greatestTemperature_51 rfl (lv_at hl 2 rfl) ?_
      refine lv_icmp_ge (tgt := 88) hx hb dX2_greatestTemperature_52 (by decide) (fun _ => ?_) (fun c9 => absurd (nI_le (Nat.le_refl _) (by omega)) c9)
      refine lv_iload hx hb dX2_greatestTemperature_88 (lv_at hl 4 rfl) ?_
      subst hQ9
      subst hA9
      exact kRet_i hx hb hr hlocks hP hS dX2_greatestTemperature_90 rfl
    | succ n ih =>
      intro z hz H locs hP hD hS ls hl
      have hzb : z < m9 := by omega
      refine lv_iload hx hb dX2_greatestTemperature_49 (lv_at hl 5 rfl) ?_
      refine lv_iload_n hx hb dX2_greatestTemperature_51 rfl (lv_at hl 2 rfl) ?_
      refine lv_icmp_ge (tgt := 88) hx hb dX2_greatestTemperature_52 (by decide) (fun c9 => absurd c9 (nI_ge (by omega) (by omega))) (fun _ => ?_)
      refine lv_aload_n hx hb dX2_greatestTemperature_55 rfl (lv_at hl 0 rfl) ?_
      refine va_get (D := D) (ci := 2) (v := .ref (t 0)) (C := RX2) (T := TX2) (N := 5) hx hb hts hi_X2 hown hK hP 0 rfl rfl 2 (by decide) (hts (.fieldLink RX2 23 "Coldaisle" "trial" "LColdaisle$Hall;") (by decide +kernel)) (fun _ h9 => h9) rfl dX2_greatestTemperature_56 ?_
      refine lv_aload_n hx hb dX2_greatestTemperature_59 rfl (lv_at hl 0 rfl) ?_
      refine va_get (D := D) (ci := 2) (v := .ref (b 0)) (C := RX2) (T := TX2) (N := 5) hx hb hts hi_X2 hown hK hP 0 rfl rfl 0 (by decide) (hts (.fieldLink RX2 10 "Coldaisle" "settings" "LColdaisle$Settings;") (by decide +kernel)) (fun _ h9 => h9) rfl dX2_greatestTemperature_60 ?_
      refine kCall2_v (ws' := wC cI cZ cO x a t b ck Ho (sT σ) (sE σ) (sD σ) (sF σ) (sS σ) (sC σ) (sL σ) (nT gp gi am (sT (hRun gp gi am Lo Se Ef dl (z + 1) σ)) (sE (hRun gp gi am Lo Se Ef dl (z + 1) σ)) (sD (hRun gp gi am Lo Se Ef dl (z + 1) σ)) (sF (hRun gp gi am Lo Se Ef dl (z + 1) σ)) (sS (hRun gp gi am Lo Se Ef dl (z + 1) σ)) (sC (hRun gp gi am Lo Se Ef dl (z + 1) σ)) (sL (hRun gp gi am Lo Se Ef dl (z + 1) σ)) Lo Se Ef dl) (nE (sT (hRun gp gi am Lo Se Ef dl (z + 1) σ)) (sE (hRun gp gi am Lo Se Ef dl (z + 1) σ)) Se) (nD gp gi (sT (hRun gp gi am Lo Se Ef dl (z + 1) σ)) (sE (hRun gp gi am Lo Se Ef dl (z + 1) σ)) (sD (hRun gp gi am Lo Se Ef dl (z + 1) σ)) (sF (hRun gp gi am Lo Se Ef dl (z + 1) σ)) Se Ef) (sF (hRun gp gi am Lo Se Ef dl (z + 1) σ)) (nS gp gi (sT (hRun gp gi am Lo Se Ef dl (z + 1) σ)) (sE (hRun gp gi am Lo Se Ef dl (z + 1) σ)) (sD (hRun gp gi am Lo Se Ef dl (z + 1) σ)) (sF (hRun gp gi am Lo Se Ef dl (z + 1) σ)) (sS (hRun gp gi am Lo Se Ef dl (z + 1) σ)) (sC (hRun gp gi am Lo Se Ef dl (z + 1) σ)) (sL (hRun gp gi am Lo Se Ef dl (z + 1) σ)) Se Ef dl) (nC gp gi (sT (hRun gp gi am Lo Se Ef dl (z + 1) σ)) (sE (hRun gp gi am Lo Se Ef dl (z + 1) σ)) (sD (hRun gp gi am Lo Se Ef dl (z + 1) σ)) (sF (hRun gp gi am Lo Se Ef dl (z + 1) σ)) (sC (hRun gp gi am Lo Se Ef dl (z + 1) σ)) (sL (hRun gp gi am Lo Se Ef dl (z + 1) σ)) Se Ef) (((sL (hRun gp gi am Lo Se Ef dl (z + 1) σ)) + 1) % 9) Lo Se Ef gp gi am li dl) (W0 := wH cI cZ cO t b (sT (hRun gp gi am Lo Se Ef dl (z + 1) σ)) (sE (hRun gp gi am Lo Se Ef dl (z + 1) σ)) (sD (hRun gp gi am Lo Se Ef dl (z + 1) σ)) (sF (hRun gp gi am Lo Se Ef dl (z + 1) σ)) (sS (hRun gp gi am Lo Se Ef dl (z + 1) σ)) (sC (hRun gp gi am Lo Se Ef dl (z + 1) σ)) (sL (hRun gp gi am Lo Se Ef dl (z + 1) σ)) Lo Se Ef gp gi am li dl) (W1 := wH cI cZ cO t b (nT gp gi am (sT (hRun gp gi am Lo Se Ef dl (z + 1) σ)) (sE (hRun gp gi am Lo Se Ef dl (z + 1) σ)) (sD (hRun gp gi am Lo Se Ef dl (z + 1) σ)) (sF (hRun gp gi am Lo Se Ef dl (z + 1) σ)) (sS (hRun gp gi am Lo Se Ef dl (z + 1) σ)) (sC (hRun gp gi am Lo Se Ef dl (z + 1) σ)) (sL (hRun gp gi am Lo Se Ef dl (z + 1) σ)) Lo Se Ef dl) (nE (sT (hRun gp gi am Lo Se Ef dl (z + 1) σ)) (sE (hRun gp gi am Lo Se Ef dl (z + 1) σ)) Se) (nD gp gi (sT (hRun gp gi am Lo Se Ef dl (z + 1) σ)) (sE (hRun gp gi am Lo Se Ef dl (z + 1) σ)) (sD (hRun gp gi am Lo Se Ef dl (z + 1) σ)) (sF (hRun gp gi am Lo Se Ef dl (z + 1) σ)) Se Ef) (sF (hRun gp gi am Lo Se Ef dl (z + 1) σ)) (nS gp gi (sT (hRun gp gi am Lo Se Ef dl (z + 1) σ)) (sE (hRun gp gi am Lo Se Ef dl (z + 1) σ)) (sD (hRun gp gi am Lo Se Ef dl (z + 1) σ)) (sF (hRun gp gi am Lo Se Ef dl (z + 1) σ)) (sS (hRun gp gi am Lo Se Ef dl (z + 1) σ)) (sC (hRun gp gi am Lo Se Ef dl (z + 1) σ)) (sL (hRun gp gi am Lo Se Ef dl (z + 1) σ)) Se Ef dl) (nC gp gi (sT (hRun gp gi am Lo Se Ef dl (z + 1) σ)) (sE (hRun gp gi am Lo Se Ef dl (z + 1) σ)) (sD (hRun gp gi am Lo Se Ef dl (z + 1) σ)) (sF (hRun gp gi am Lo Se Ef dl (z + 1) σ)) (sC (hRun gp gi am Lo Se Ef dl (z + 1) σ)) (sL (hRun gp gi am Lo Se Ef dl (z + 1) σ)) Se Ef) (((sL (hRun gp gi am Lo Se Ef dl (z + 1) σ)) + 1) % 9) Lo Se Ef gp gi am li dl) hP hD hS hA pT pTR wC_tryC wC_tryC wC_tryR wC_len (by decide) (by decide) wC_tryF (va_runV (As := [.ref (b 0)]) (rest := []) ⟨hx, hb, hml, hown, hts⟩ (c_X0_runMinute l D cI cZ cO cJ t b (sT (hRun gp gi am Lo Se Ef dl (z + 1) σ)) (sE (hRun gp gi am Lo Se Ef dl (z + 1) σ)) (sD (hRun gp gi am Lo Se Ef dl (z + 1) σ)) (sF (hRun gp gi am Lo Se Ef dl (z + 1) σ)) (sS (hRun gp gi am Lo Se Ef dl (z + 1) σ)) (sC (hRun gp gi am Lo Se Ef dl (z + 1) σ)) (sL (hRun gp gi am Lo Se Ef dl (z + 1) σ)) Lo Se Ef gp gi am li dl H.size (hRun_la (σ := σ) h8 (z + 1)) (h9)) (cwV (rm := rmX0_runMinute) 1 hts gX2_greatestTemperature_X0_runMinute rfl rfl rfl (by decide +kernel) ⟨Nat.le_of_ble_eq_true rfl, Nat.le_of_ble_eq_true rfl⟩) (kPreV hK hN hP hD pT rfl wC_tryC (va_recv hK hP (ci := 0) (q0 := 9) rfl rfl)) rfl rfl hl.1 rfl (lv_room (Nat.le_of_ble_eq_true rfl)) dX2_greatestTemperature_63 ⟨Nat.zero_le _, Nat.zero_le _⟩) (fun H locs hP hD hS => ?_)
      have hP : va_P D vwCl (wC cI cZ cO x a t b ck Ho (sT σ) (sE σ) (sD σ) (sF σ) (sS σ) (sC σ) (sL σ) (sT (hRun gp gi am Lo Se Ef dl (z + 1 + 1) σ)) (sE (hRun gp gi am Lo Se Ef dl (z + 1 + 1) σ)) (sD (hRun gp gi am Lo Se Ef dl (z + 1 + 1) σ)) (sF (hRun gp gi am Lo Se Ef dl (z + 1 + 1) σ)) (sS (hRun gp gi am Lo Se Ef dl (z + 1 + 1) σ)) (sC (hRun gp gi am Lo Se Ef dl (z + 1 + 1) σ)) (sL (hRun gp gi am Lo Se Ef dl (z + 1 + 1) σ)) Lo Se Ef gp gi am li dl) H := hP
      have hD : va_D A (wC cI cZ cO x a t b ck Ho (sT σ) (sE σ) (sD σ) (sF σ) (sS σ) (sC σ) (sL σ) (sT (hRun gp gi am Lo Se Ef dl (z + 1 + 1) σ)) (sE (hRun gp gi am Lo Se Ef dl (z + 1 + 1) σ)) (sD (hRun gp gi am Lo Se Ef dl (z + 1 + 1) σ)) (sF (hRun gp gi am Lo Se Ef dl (z + 1 + 1) σ)) (sS (hRun gp gi am Lo Se Ef dl (z + 1 + 1) σ)) (sC (hRun gp gi am Lo Se Ef dl (z + 1 + 1) σ)) (sL (hRun gp gi am Lo Se Ef dl (z + 1 + 1) σ)) Lo Se Ef gp gi am li dl) := hD
      refine lv_iload hx hb dX2_greatestTemperature_66 (lv_at hl 4 rfl) ?_
      refine lv_aload_n hx hb dX2_greatestTemperature_68 rfl (lv_at hl 0 rfl) ?_
      refine va_get (D := D) (ci := 2) (v := .ref (t 0)) (C := RX2) (T := TX2) (N := 5) hx hb hts hi_X2 hown hK hP 0 rfl rfl 2 (by decide) (hts (.fieldLink RX2 23 "Coldaisle" "trial" "LColdaisle$Hall;") (by decide +kernel)) (fun _ h9 => h9) rfl dX2_greatestTemperature_69 ?_
      refine va_get (D := D) (ci := 0) (v := .ref (t 1)) (C := RX0) (T := TX0) (N := 7) hx hb hts hi_X0 hown hK hP 9 rfl rfl 0 (by decide) (hts (.fieldLink RX2 110 "Coldaisle$Hall" "temperature" "[I") (by decide +kernel)) (fun _ h9 => h9) rfl dX2_greatestTemperature_72 ?_
      refine lv_iload_n hx hb dX2_greatestTemperature_75 rfl (lv_at hl 1 rfl) ?_
      refine k_iald hx hb hK hP 10 0 rfl rfl (i := z0) (by omega) (by decide) dX2_greatestTemperature_76 ?_
      refine va_mmax hx hb (by rw [hml]; exact hl.1.symm) hown (hts (.methodLink RX2 132 Lib.Math.max.name) (by decide +kernel)) (hts (.static Lib.Math.max.name) (by decide +kernel)) (hts (.initialized "java/lang/Math") (by decide +kernel)) (hts (.code Lib.Math.max.name Lib.Math.max.code 2 (some .int)) (by decide +kernel)) (Nat.le_of_ble_eq_true rfl) (Nat.le_of_ble_eq_true rfl) (Nat.zero_le _) (Nat.zero_le _) (x := gTop (fun k => sT (hRun gp gi am Lo Se Ef dl (k + 1) σ) z0) z) (y := (sT (hRun gp gi am Lo Se Ef dl (z + 1 + 1) σ)) z0) dX2_greatestTemperature_77 ?_
      refine k_as (y := mMax (gTop (fun k => sT (hRun gp gi am Lo Se Ef dl (k + 1) σ) z0) z) ((sT (hRun gp gi am Lo Se Ef dl (z + 1 + 1) σ)) z0)) rfl ?_
      refine lv_istore (lv' := [(4, .int (mMax (gTop (fun k => sT (hRun gp gi am Lo Se Ef dl (k + 1) σ) z0) z) ((sT (hRun gp gi am Lo Se Ef dl (z + 1 + 1) σ)) z0))), (0, .ref (x 0)), (1, .int (nI z0)), (2, .int (nI (m9 + 1))), (3, .int (-1)), (5, .int (nI (z + 1)))]) hx hb dX2_greatestTemperature_80 hl (by decide) rfl (fun ls hl => ?_)
      refine lv_iinc (v := nI (z + 1 + 1)) (lv' := [(5, .int (nI (z + 1 + 1))), (4, .int (mMax (gTop (fun k => sT (hRun gp gi am Lo Se Ef dl (k + 1) σ) z0) z) ((sT (hRun gp gi am Lo Se Ef dl (z + 1 + 1) σ)) z0))), (0, .ref (x 0)), (1, .int (nI z0)), (2, .int (nI (m9 + 1))), (3, .int (-1))]) hx hb dX2_greatestTemperature_82 hl (k := 5) rfl (k_inc _) (by decide) rfl (fun ls hl => ?_)
      refine lv_goto (tgt := 49) hx hb dX2_greatestTemperature_85 (by decide) ?_
      exact ih (z + 1) (by omega) H locs hP hD hS ls (lv_sub hl [2, 3, 4, 5, 1, 0] rfl)
  exact lp m9 0 (by omega) H locs hP hD hS ls (lv_sub hl [2, 3, 4, 5, 1, 0] rfl)

set_option maxHeartbeats 4000000 in
set_option maxRecDepth 100000 in
/-- greatestTemperature -/
theorem c_X2_greatestTemperature_f (l : Launch) (D : va_G) (cI cZ cO cJ : ClassId) (x a t b : Nat → Nat) (ck : Nat) (Ho : Nat → Int32) (σ : HS) (T1 E1 D1 F1 S1 : Nat → Int32) (C1 : Nat → Nat → Int32) (la1 : Nat) (Lo Se : Nat → Int32) (Ef : Nat → Nat → Int32) (gp gi am li : Int32) (dl : Nat) (z0 m9 f : Nat) (sz : Nat) (hz0 : z0 < 6) (hm : m9 < 60) (hf : f < 8) (h8 : sL σ < 9) (h9 : dl < 9) (hFb : ∀ f : Nat, f < 8 → sF σ f = nI 0 ∨ sF σ f = nI 1) : kMi l yX2_greatestTemperature wsX2_greatestTemperature rmX2_greatestTemperature D (kT cI cZ cO cJ) [.ref (x 0), .int (nI z0), .int (nI (m9 + 1)), .int (nI f)] (wC cI cZ cO x a t b ck Ho (sT σ) (sE σ) (sD σ) (sF σ) (sS σ) (sC σ) (sL σ) T1 E1 D1 F1 S1 C1 la1 Lo Se Ef gp gi am li dl) (wC cI cZ cO x a t b ck Ho (sT σ) (sE σ) (sD σ) (sF σ) (sS σ) (sC σ) (sL σ) (sT (hRun gp gi am Lo Se Ef dl (m9 + 1) (hFail σ f))) (sE (hRun gp gi am Lo Se Ef dl (m9 + 1) (hFail σ f))) (sD (hRun gp gi am Lo Se Ef dl (m9 + 1) (hFail σ f))) (sF (hRun gp gi am Lo Se Ef dl (m9 + 1) (hFail σ f))) (sS (hRun gp gi am Lo Se Ef dl (m9 + 1) (hFail σ f))) (sC (hRun gp gi am Lo Se Ef dl (m9 + 1) (hFail σ f))) (sL (hRun gp gi am Lo Se Ef dl (m9 + 1) (hFail σ f))) Lo Se Ef gp gi am li dl) sz (gOf gp gi am Lo Se Ef dl (hFail σ f) z0 m9) := by
  refine kEnter (cc := cX2_greatestTemperature) (maxL := 6) (ret := some .int) (by decide +kernel) rfl (Nat.le_of_ble_eq_true rfl) ?_
  intro p e s m below meth c args hx hb hr hml hts hown hlocks hin hK hN A hA9 Q hQ9 hP hD hsz hS hA ls hl
  have hl : lv_has ls 6 [(0, .ref (x 0)), (1, .int (nI z0)), (2, .int (nI (m9 + 1))), (3, .int (nI f))] := hl
  have hi_X2 : ∀ w ∈ u_ws RX2 TX2 5, w ∈ wsX2_greatestTemperature := by decide +kernel
  have hi_X0 : ∀ w ∈ u_ws RX0 TX0 7, w ∈ wsX2_greatestTemperature := by decide +kernel
  obtain ⟨H, hH9⟩ : ∃ H, H = s.heap := ⟨_, rfl⟩
  rw [← hH9] at hP ⊢
  have hS : va_S A s.heap H [] := by rw [hH9]; exact va_S.rf
  refine lv_aload_n hx hb dX2_greatestTemperature_0 rfl (lv_at hl 0 rfl) ?_
  refine va_get (D := D) (ci := 2) (v := .ref (t 0)) (C := RX2) (T := TX2) (N := 5) hx hb hts hi_X2 hown hK hP 0 rfl rfl 2 (by decide) (hts (.fieldLink RX2 23 "Coldaisle" "trial" "LColdaisle$Hall;") (by decide +kernel)) (fun _ h9 => h9) rfl dX2_greatestTemperature_1 ?_
  refine lv_aload_n hx hb dX2_greatestTemperature_4 rfl (lv_at hl 0 rfl) ?_
  refine va_get (D := D) (ci := 2) (v := .ref (a 0)) (C := RX2) (T := TX2) (N := 5) hx hb hts hi_X2 hown hK hP 0 rfl rfl 1 (by decide) (hts (.fieldLink RX2 19 "Coldaisle" "hall" "LColdaisle$Hall;") (by decide +kernel)) (fun _ h9 => h9) rfl dX2_greatestTemperature_5 ?_
  refine kCallW_v (W1 := wC cI cZ cO x a t b ck Ho (sT σ) (sE σ) (sD σ) (sF σ) (sS σ) (sC σ) (sL σ) (sT σ) (sE σ) (sD σ) (sF σ) (sS σ) (sC σ) (sL σ) Lo Se Ef gp gi am li dl) hD hS hA rfl (va_runV (As := [.ref (a 0)]) (rest := []) ⟨hx, hb, hml, hown, hts⟩ (c_X0_copyFrom l D cI cZ cO cJ x a t b ck Ho (sT σ) (sE σ) (sD σ) (sF σ) (sS σ) (sC σ) (sL σ) T1 E1 D1 F1 S1 C1 la1 Lo Se Ef gp gi am li dl H.size hFb) (cwV (rm := rmX0_copyFrom) 1 hts gX2_greatestTemperature_X0_copyFrom rfl rfl rfl (by decide +kernel) ⟨Nat.le_of_ble_eq_true rfl, Nat.le_of_ble_eq_true rfl⟩) (kPreVW hK hN hP hD (va_recv hK hP (ci := 0) (q0 := 9) rfl rfl)) rfl rfl hl.1 rfl (lv_room (Nat.le_of_ble_eq_true rfl)) dX2_greatestTemperature_8 ⟨Nat.zero_le _, Nat.zero_le _⟩) (fun H locs hP hD hS => ?_)
  refine lv_iload_n hx hb dX2_greatestTemperature_11 rfl (lv_at hl 3 rfl) ?_
  refine lv_iconst (v := (-1)) hx hb dX2_greatestTemperature_12 (by decide +kernel) ?_
  refine lv_icmp_eq (tgt := 24) hx hb dX2_greatestTemperature_13 (by decide) (fun c9 => absurd c9 (nI_m1 (by omega))) (fun _ => ?_)
  refine lv_aload_n hx hb dX2_greatestTemperature_16 rfl (lv_at hl 0 rfl) ?_
  refine va_get (D := D) (ci := 2) (v := .ref (t 0)) (C := RX2) (T := TX2) (N := 5) hx hb hts hi_X2 hown hK hP 0 rfl rfl 2 (by decide) (hts (.fieldLink RX2 23 "Coldaisle" "trial" "LColdaisle$Hall;") (by decide +kernel)) (fun _ h9 => h9) rfl dX2_greatestTemperature_17 ?_
  refine lv_iload_n hx hb dX2_greatestTemperature_20 rfl (lv_at hl 3 rfl) ?_
  refine kCall2_v (ws' := wC cI cZ cO x a t b ck Ho (sT σ) (sE σ) (sD σ) (sF σ) (sS σ) (sC σ) (sL σ) (sT σ) (sE σ) (sD σ) (upd (sF σ) f (nI 1)) (upd (sS σ) f (nI 0)) (sC σ) (sL σ) Lo Se Ef gp gi am li dl) (W0 := wH cI cZ cO t b (sT σ) (sE σ) (sD σ) (sF σ) (sS σ) (sC σ) (sL σ) Lo Se Ef gp gi am li dl) (W1 := wH cI cZ cO t b (sT σ) (sE σ) (sD σ) (upd (sF σ) f (nI 1)) (upd (sS σ) f (nI 0)) (sC σ) (sL σ) Lo Se Ef gp gi am li dl) hP hD hS hA pT pTR wC_tryC wC_tryC wC_tryR wC_len (by decide) (by decide) wC_tryF (va_runV (As := [.int (nI f)]) (rest := []) ⟨hx, hb, hml, hown, hts⟩ (c_X0_stopFan l D cI cZ cO cJ t b (sT σ) (sE σ) (sD σ) (sF σ) (sS σ) (sC σ) (sL σ) Lo Se Ef gp gi am li dl f H.size (by omega)) (cwV (rm := rmX0_stopFan) 1 hts gX2_greatestTemperature_X0_stopFan rfl rfl rfl (by decide +kernel) ⟨Nat.le_of_ble_eq_true rfl, Nat.le_of_ble_eq_true rfl⟩) (kPreV hK hN hP hD pT rfl wC_tryC (va_recv hK hP (ci := 0) (q0 := 9) rfl rfl)) rfl rfl hl.1 rfl (lv_room (Nat.le_of_ble_eq_true rfl)) dX2_greatestTemperature_21 ⟨Nat.zero_le _, Nat.zero_le _⟩) (fun H locs hP hD hS => ?_)
  refine lv_aload_n hx hb dX2_greatestTemperature_24 rfl (lv_at hl 0 rfl) ?_
  refine va_get (D := D) (ci := 2) (v := .ref (t 0)) (C := RX2) (T := TX2) (N := 5) hx hb hts hi_X2 hown hK hP 0 rfl rfl 2 (by decide) (hts (.fieldLink RX2 23 "Coldaisle" "trial" "LColdaisle$Hall;") (by decide +kernel)) (fun _ h9 => h9) rfl dX2_greatestTemperature_25 ?_
  refine lv_aload_n hx hb dX2_greatestTemperature_28 rfl (lv_at hl 0 rfl) ?_
  refine va_get (D := D) (ci := 2) (v := .ref (b 0)) (C := RX2) (T := TX2) (N := 5) hx hb hts hi_X2 hown hK hP 0 rfl rfl 0 (by decide) (hts (.fieldLink RX2 10 "Coldaisle" "settings" "LColdaisle$Settings;") (by decide +kernel)) (fun _ h9 => h9) rfl dX2_greatestTemperature_29 ?_
  refine kCall2_v (ws' := wC cI cZ cO x a t b ck Ho (sT σ) (sE σ) (sD σ) (sF σ) (sS σ) (sC σ) (sL σ) (nT gp gi am (sT σ) (sE σ) (sD σ) (upd (sF σ) f (nI 1)) (upd (sS σ) f (nI 0)) (sC σ) (sL σ) Lo Se Ef dl) (nE (sT σ) (sE σ) Se) (nD gp gi (sT σ) (sE σ) (sD σ) (upd (sF σ) f (nI 1)) Se Ef) (upd (sF σ) f (nI 1)) (nS gp gi (sT σ) (sE σ) (sD σ) (upd (sF σ) f (nI 1)) (upd (sS σ) f (nI 0)) (sC σ) (sL σ) Se Ef dl) (nC gp gi (sT σ) (sE σ) (sD σ) (upd (sF σ) f (nI 1)) (sC σ) (sL σ) Se Ef) (((sL σ) + 1) % 9) Lo Se Ef gp gi am li dl) (W0 := wH cI cZ cO t b (sT σ) (sE σ) (sD σ) (upd (sF σ) f (nI 1)) (upd (sS σ) f (nI 0)) (sC σ) (sL σ) Lo Se Ef gp gi am li dl) (W1 := wH cI cZ cO t b (nT gp gi am (sT σ) (sE σ) (sD σ) (upd (sF σ) f (nI 1)) (upd (sS σ) f (nI 0)) (sC σ) (sL σ) Lo Se Ef dl) (nE (sT σ) (sE σ) Se) (nD gp gi (sT σ) (sE σ) (sD σ) (upd (sF σ) f (nI 1)) Se Ef) (upd (sF σ) f (nI 1)) (nS gp gi (sT σ) (sE σ) (sD σ) (upd (sF σ) f (nI 1)) (upd (sS σ) f (nI 0)) (sC σ) (sL σ) Se Ef dl) (nC gp gi (sT σ) (sE σ) (sD σ) (upd (sF σ) f (nI 1)) (sC σ) (sL σ) Se Ef) (((sL σ) + 1) % 9) Lo Se Ef gp gi am li dl) hP hD hS hA pT pTR wC_tryC wC_tryC wC_tryR wC_len (by decide) (by decide) wC_tryF (va_runV (As := [.ref (b 0)]) (rest := []) ⟨hx, hb, hml, hown, hts⟩ (c_X0_runMinute l D cI cZ cO cJ t b (sT σ) (sE σ) (sD σ) (upd (sF σ) f (nI 1)) (upd (sS σ) f (nI 0)) (sC σ) (sL σ) Lo Se Ef gp gi am li dl H.size (h8) (h9)) (cwV (rm := rmX0_runMinute) 1 hts gX2_greatestTemperature_X0_runMinute rfl rfl rfl (by decide +kernel) ⟨Nat.le_of_ble_eq_true rfl, Nat.le_of_ble_eq_true rfl⟩) (kPreV hK hN hP hD pT rfl wC_tryC (va_recv hK hP (ci := 0) (q0 := 9) rfl rfl)) rfl rfl hl.1 rfl (lv_room (Nat.le_of_ble_eq_true rfl)) dX2_greatestTemperature_32 ⟨Nat.zero_le _, Nat.zero_le _⟩) (fun H locs hP hD hS => ?_)
  have hP : va_P D vwCl (wC cI cZ cO x a t b ck Ho (sT σ) (sE σ) (sD σ) (sF σ) (sS σ) (sC σ) (sL σ) (sT (hRun gp gi am Lo Se Ef dl 1 (hFail σ f))) (sE (hRun gp gi am Lo Se Ef dl 1 (hFail σ f))) (sD (hRun gp gi am Lo Se Ef dl 1 (hFail σ f))) (sF (hRun gp gi am Lo Se Ef dl 1 (hFail σ f))) (sS (hRun gp gi am Lo Se Ef dl 1 (hFail σ f))) (sC (hRun gp gi am Lo Se Ef dl 1 (hFail σ f))) (sL (hRun gp gi am Lo Se Ef dl 1 (hFail σ f))) Lo Se Ef gp gi am li dl) H := hP
  have hD : va_D A (wC cI cZ cO x a t b ck Ho (sT σ) (sE σ) (sD σ) (sF σ) (sS σ) (sC σ) (sL σ) (sT (hRun gp gi am Lo Se Ef dl 1 (hFail σ f))) (sE (hRun gp gi am Lo Se Ef dl 1 (hFail σ f))) (sD (hRun gp gi am Lo Se Ef dl 1 (hFail σ f))) (sF (hRun gp gi am Lo Se Ef dl 1 (hFail σ f))) (sS (hRun gp gi am Lo Se Ef dl 1 (hFail σ f))) (sC (hRun gp gi am Lo Se Ef dl 1 (hFail σ f))) (sL (hRun gp gi am Lo Se Ef dl 1 (hFail σ f))) Lo Se Ef gp gi am li dl) := hD
  refine lv_aload_n hx hb dX2_greatestTemperature_35 rfl (lv_at hl 0 rfl) ?_
  refine va_get (D := D) (ci := 2) (v := .ref (t 0)) (C := RX2) (T := TX2) (N := 5) hx hb hts hi_X2 hown hK hP 0 rfl rfl 2 (by decide) (hts (.fieldLink RX2 23 "Coldaisle" "trial" "LColdaisle$Hall;") (by decide +kernel)) (fun _ h9 => h9) rfl dX2_greatestTemperature_36 ?_
  refine va_get (D := D) (ci := 0) (v := .ref (t 1)) (C := RX0) (T := TX0) (N := 7) hx hb hts hi_X0 hown hK hP 9 rfl rfl 0 (by decide) (hts (.fieldLink RX2 110 "Coldaisle$Hall" "temperature" "[I") (by decide +kernel)) (fun _ h9 => h9) rfl dX2_greatestTemperature_39 ?_
  refine lv_iload_n hx hb dX2_greatestTemperature_42 rfl (lv_at hl 1 rfl) ?_
  refine k_iald hx hb hK hP 10 0 rfl rfl (i := z0) (by omega) (by decide) dX2_greatestTemperature_43 ?_
  refine lv_istore (lv' := [(4, .int ((sT (hRun gp gi am Lo Se Ef dl 1 (hFail σ f))) z0)), (0, .ref (x 0)), (1, .int (nI z0)), (2, .int (nI (m9 + 1))), (3, .int (nI f))]) hx hb dX2_greatestTemperature_44 hl (by decide) rfl (fun ls hl => ?_)
  refine lv_iconst (v := nI 1) hx hb dX2_greatestTemperature_46 (by decide +kernel) ?_
  refine lv_istore (lv' := [(5, .int (nI 1)), (4, .int ((sT (hRun gp gi am Lo Se Ef dl 1 (hFail σ f))) z0)), (0, .ref (x 0)), (1, .int (nI z0)), (2, .int (nI (m9 + 1))), (3, .int (nI f))]) hx hb dX2_greatestTemperature_47 hl (by decide) rfl (fun ls hl => ?_)
  have lp : ∀ (n z : Nat), z + n = m9 → ∀ (H : Heap) (locs : List Loc), va_P D vwCl (wC cI cZ cO x a t b ck Ho (sT σ) (sE σ) (sD σ) (sF σ) (sS σ) (sC σ) (sL σ) (sT (hRun gp gi am Lo Se Ef dl (z + 1) (hFail σ f))) (sE (hRun gp gi am Lo Se Ef dl (z + 1) (hFail σ f))) (sD (hRun gp gi am Lo Se Ef dl (z + 1) (hFail σ f))) (sF (hRun gp gi am Lo Se Ef dl (z + 1) (hFail σ f))) (sS (hRun gp gi am Lo Se Ef dl (z + 1) (hFail σ f))) (sC (hRun gp gi am Lo Se Ef dl (z + 1) (hFail σ f))) (sL (hRun gp gi am Lo Se Ef dl (z + 1) (hFail σ f))) Lo Se Ef gp gi am li dl) H → va_D A (wC cI cZ cO x a t b ck Ho (sT σ) (sE σ) (sD σ) (sF σ) (sS σ) (sC σ) (sL σ) (sT (hRun gp gi am Lo Se Ef dl (z + 1) (hFail σ f))) (sE (hRun gp gi am Lo Se Ef dl (z + 1) (hFail σ f))) (sD (hRun gp gi am Lo Se Ef dl (z + 1) (hFail σ f))) (sF (hRun gp gi am Lo Se Ef dl (z + 1) (hFail σ f))) (sS (hRun gp gi am Lo Se Ef dl (z + 1) (hFail σ f))) (sC (hRun gp gi am Lo Se Ef dl (z + 1) (hFail σ f))) (sL (hRun gp gi am Lo Se Ef dl (z + 1) (hFail σ f))) Lo Se Ef gp gi am li dl) → va_S A s.heap H locs → ∀ ls : Array Slot, lv_has ls 6 [(0, .ref (x 0)), (1, .int (nI z0)), (2, .int (nI (m9 + 1))), (3, .int (nI f)), (4, .int (gTop (fun k => sT (hRun gp gi am Lo Se Ef dl (k + 1) (hFail σ f)) z0) z)), (5, .int (nI (z + 1)))] → W p l e rmX2_greatestTemperature s m args below meth c H locs 0 0 Q (F0 m 49 ls []) := by
    intro n
    induction n with
    | zero =>
      intro z hz H locs hP hD hS ls hl
      have hz9 : m9 = z := by omega
      subst hz9
      refine lv_iload hx hb dX2_greatestTemperature_49 (lv_at hl 5 rfl) ?_
      refine lv_iload_n hx hb dX2_greatestTemperature_51 rfl (lv_at hl 2 rfl) ?_
      refine lv_icmp_ge (tgt := 88) hx hb dX2_greatestTemperature_52 (by decide) (fun _ => ?_) (fun c9 => absurd (nI_le (Nat.le_refl _) (by omega)) c9)
      refine lv_iload hx hb dX2_greatestTemperature_88 (lv_at hl 4 rfl) ?_
      subst hQ9
      subst hA9
      exact kRet_i hx hb hr hlocks hP hS dX2_greatestTemperature_90 rfl
    | succ n ih =>
      intro z hz H locs hP hD hS ls hl
      have hzb : z < m9 := by omega
      refine lv_iload hx hb dX2_greatestTemperature_49 (lv_at hl 5 rfl) ?_
      refine lv_iload_n hx hb dX2_greatestTemperature_51 rfl (lv_at hl 2 rfl) ?_
      refine lv_icmp_ge (tgt := 88) hx hb dX2_greatestTemperature_52 (by decide) (fun c9 => absurd c9 (nI_ge (by omega) (by omega))) (fun _ => ?_)
      refine lv_aload_n hx hb dX2_greatestTemperature_55 rfl (lv_at hl 0 rfl) ?_
      refine va_get (D := D) (ci := 2) (v := .ref (t 0)) (C := RX2) (T := TX2) (N := 5) hx hb hts hi_X2 hown hK hP 0 rfl rfl 2 (by decide) (hts (.fieldLink RX2 23 "Coldaisle" "trial" "LColdaisle$Hall;") (by decide +kernel)) (fun _ h9 => h9) rfl dX2_greatestTemperature_56 ?_
      refine lv_aload_n hx hb dX2_greatestTemperature_59 rfl (lv_at hl 0 rfl) ?_
      refine va_get (D := D) (ci := 2) (v := .ref (b 0)) (C := RX2) (T := TX2) (N := 5) hx hb hts hi_X2 hown hK hP 0 rfl rfl 0 (by decide) (hts (.fieldLink RX2 10 "Coldaisle" "settings" "LColdaisle$Settings;") (by decide +kernel)) (fun _ h9 => h9) rfl dX2_greatestTemperature_60 ?_
      refine kCall2_v (ws' := wC cI cZ cO x a t b ck Ho (sT σ) (sE σ) (sD σ) (sF σ) (sS σ) (sC σ) (sL σ) (nT gp gi am (sT (hRun gp gi am Lo Se Ef dl (z + 1) (hFail σ f))) (sE (hRun gp gi am Lo Se Ef dl (z + 1) (hFail σ f))) (sD (hRun gp gi am Lo Se Ef dl (z + 1) (hFail σ f))) (sF (hRun gp gi am Lo Se Ef dl (z + 1) (hFail σ f))) (sS (hRun gp gi am Lo Se Ef dl (z + 1) (hFail σ f))) (sC (hRun gp gi am Lo Se Ef dl (z + 1) (hFail σ f))) (sL (hRun gp gi am Lo Se Ef dl (z + 1) (hFail σ f))) Lo Se Ef dl) (nE (sT (hRun gp gi am Lo Se Ef dl (z + 1) (hFail σ f))) (sE (hRun gp gi am Lo Se Ef dl (z + 1) (hFail σ f))) Se) (nD gp gi (sT (hRun gp gi am Lo Se Ef dl (z + 1) (hFail σ f))) (sE (hRun gp gi am Lo Se Ef dl (z + 1) (hFail σ f))) (sD (hRun gp gi am Lo Se Ef dl (z + 1) (hFail σ f))) (sF (hRun gp gi am Lo Se Ef dl (z + 1) (hFail σ f))) Se Ef) (sF (hRun gp gi am Lo Se Ef dl (z + 1) (hFail σ f))) (nS gp gi (sT (hRun gp gi am Lo Se Ef dl (z + 1) (hFail σ f))) (sE (hRun gp gi am Lo Se Ef dl (z + 1) (hFail σ f))) (sD (hRun gp gi am Lo Se Ef dl (z + 1) (hFail σ f))) (sF (hRun gp gi am Lo Se Ef dl (z + 1) (hFail σ f))) (sS (hRun gp gi am Lo Se Ef dl (z + 1) (hFail σ f))) (sC (hRun gp gi am Lo Se Ef dl (z + 1) (hFail σ f))) (sL (hRun gp gi am Lo Se Ef dl (z + 1) (hFail σ f))) Se Ef dl) (nC gp gi (sT (hRun gp gi am Lo Se Ef dl (z + 1) (hFail σ f))) (sE (hRun gp gi am Lo Se Ef dl (z + 1) (hFail σ f))) (sD (hRun gp gi am Lo Se Ef dl (z + 1) (hFail σ f))) (sF (hRun gp gi am Lo Se Ef dl (z + 1) (hFail σ f))) (sC (hRun gp gi am Lo Se Ef dl (z + 1) (hFail σ f))) (sL (hRun gp gi am Lo Se Ef dl (z + 1) (hFail σ f))) Se Ef) (((sL (hRun gp gi am Lo Se Ef dl (z + 1) (hFail σ f))) + 1) % 9) Lo Se Ef gp gi am li dl) (W0 := wH cI cZ cO t b (sT (hRun gp gi am Lo Se Ef dl (z + 1) (hFail σ f))) (sE (hRun gp gi am Lo Se Ef dl (z + 1) (hFail σ f))) (sD (hRun gp gi am Lo Se Ef dl (z + 1) (hFail σ f))) (sF (hRun gp gi am Lo Se Ef dl (z + 1) (hFail σ f))) (sS (hRun gp gi am Lo Se Ef dl (z + 1) (hFail σ f))) (sC (hRun gp gi am Lo Se Ef dl (z + 1) (hFail σ f))) (sL (hRun gp gi am Lo Se Ef dl (z + 1) (hFail σ f))) Lo Se Ef gp gi am li dl) (W1 := wH cI cZ cO t b (nT gp gi am (sT (hRun gp gi am Lo Se Ef dl (z + 1) (hFail σ f))) (sE (hRun gp gi am Lo Se Ef dl (z + 1) (hFail σ f))) (sD (hRun gp gi am Lo Se Ef dl (z + 1) (hFail σ f))) (sF (hRun gp gi am Lo Se Ef dl (z + 1) (hFail σ f))) (sS (hRun gp gi am Lo Se Ef dl (z + 1) (hFail σ f))) (sC (hRun gp gi am Lo Se Ef dl (z + 1) (hFail σ f))) (sL (hRun gp gi am Lo Se Ef dl (z + 1) (hFail σ f))) Lo Se Ef dl) (nE (sT (hRun gp gi am Lo Se Ef dl (z + 1) (hFail σ f))) (sE (hRun gp gi am Lo Se Ef dl (z + 1) (hFail σ f))) Se) (nD gp gi (sT (hRun gp gi am Lo Se Ef dl (z + 1) (hFail σ f))) (sE (hRun gp gi am Lo Se Ef dl (z + 1) (hFail σ f))) (sD (hRun gp gi am Lo Se Ef dl (z + 1) (hFail σ f))) (sF (hRun gp gi am Lo Se Ef dl (z + 1) (hFail σ f))) Se Ef) (sF (hRun gp gi am Lo Se Ef dl (z + 1) (hFail σ f))) (nS gp gi (sT (hRun gp gi am Lo Se Ef dl (z + 1) (hFail σ f))) (sE (hRun gp gi am Lo Se Ef dl (z + 1) (hFail σ f))) (sD (hRun gp gi am Lo Se Ef dl (z + 1) (hFail σ f))) (sF (hRun gp gi am Lo Se Ef dl (z + 1) (hFail σ f))) (sS (hRun gp gi am Lo Se Ef dl (z + 1) (hFail σ f))) (sC (hRun gp gi am Lo Se Ef dl (z + 1) (hFail σ f))) (sL (hRun gp gi am Lo Se Ef dl (z + 1) (hFail σ f))) Se Ef dl) (nC gp gi (sT (hRun gp gi am Lo Se Ef dl (z + 1) (hFail σ f))) (sE (hRun gp gi am Lo Se Ef dl (z + 1) (hFail σ f))) (sD (hRun gp gi am Lo Se Ef dl (z + 1) (hFail σ f))) (sF (hRun gp gi am Lo Se Ef dl (z + 1) (hFail σ f))) (sC (hRun gp gi am Lo Se Ef dl (z + 1) (hFail σ f))) (sL (hRun gp gi am Lo Se Ef dl (z + 1) (hFail σ f))) Se Ef) (((sL (hRun gp gi am Lo Se Ef dl (z + 1) (hFail σ f))) + 1) % 9) Lo Se Ef gp gi am li dl) hP hD hS hA pT pTR wC_tryC wC_tryC wC_tryR wC_len (by decide) (by decide) wC_tryF (va_runV (As := [.ref (b 0)]) (rest := []) ⟨hx, hb, hml, hown, hts⟩ (c_X0_runMinute l D cI cZ cO cJ t b (sT (hRun gp gi am Lo Se Ef dl (z + 1) (hFail σ f))) (sE (hRun gp gi am Lo Se Ef dl (z + 1) (hFail σ f))) (sD (hRun gp gi am Lo Se Ef dl (z + 1) (hFail σ f))) (sF (hRun gp gi am Lo Se Ef dl (z + 1) (hFail σ f))) (sS (hRun gp gi am Lo Se Ef dl (z + 1) (hFail σ f))) (sC (hRun gp gi am Lo Se Ef dl (z + 1) (hFail σ f))) (sL (hRun gp gi am Lo Se Ef dl (z + 1) (hFail σ f))) Lo Se Ef gp gi am li dl H.size (hRun_la (σ := hFail σ f) h8 (z + 1)) (h9)) (cwV (rm := rmX0_runMinute) 1 hts gX2_greatestTemperature_X0_runMinute rfl rfl rfl (by decide +kernel) ⟨Nat.le_of_ble_eq_true rfl, Nat.le_of_ble_eq_true rfl⟩) (kPreV hK hN hP hD pT rfl wC_tryC (va_recv hK hP (ci := 0) (q0 := 9) rfl rfl)) rfl rfl hl.1 rfl (lv_room (Nat.le_of_ble_eq_true rfl)) dX2_greatestTemperature_63 ⟨Nat.zero_le _, Nat.zero_le _⟩) (fun H locs hP hD hS => ?_)
      have hP : va_P D vwCl (wC cI cZ cO x a t b ck Ho (sT σ) (sE σ) (sD σ) (sF σ) (sS σ) (sC σ) (sL σ) (sT (hRun gp gi am Lo Se Ef dl (z + 1 + 1) (hFail σ f))) (sE (hRun gp gi am Lo Se Ef dl (z + 1 + 1) (hFail σ f))) (sD (hRun gp gi am Lo Se Ef dl (z + 1 + 1) (hFail σ f))) (sF (hRun gp gi am Lo Se Ef dl (z + 1 + 1) (hFail σ f))) (sS (hRun gp gi am Lo Se Ef dl (z + 1 + 1) (hFail σ f))) (sC (hRun gp gi am Lo Se Ef dl (z + 1 + 1) (hFail σ f))) (sL (hRun gp gi am Lo Se Ef dl (z + 1 + 1) (hFail σ f))) Lo Se Ef gp gi am li dl) H := hP
      have hD : va_D A (wC cI cZ cO x a t b ck Ho (sT σ) (sE σ) (sD σ) (sF σ) (sS σ) (sC σ) (sL σ) (sT (hRun gp gi am Lo Se Ef dl (z + 1 + 1) (hFail σ f))) (sE (hRun gp gi am Lo Se Ef dl (z + 1 + 1) (hFail σ f))) (sD (hRun gp gi am Lo Se Ef dl (z + 1 + 1) (hFail σ f))) (sF (hRun gp gi am Lo Se Ef dl (z + 1 + 1) (hFail σ f))) (sS (hRun gp gi am Lo Se Ef dl (z + 1 + 1) (hFail σ f))) (sC (hRun gp gi am Lo Se Ef dl (z + 1 + 1) (hFail σ f))) (sL (hRun gp gi am Lo Se Ef dl (z + 1 + 1) (hFail σ f))) Lo Se Ef gp gi am li dl) := hD
      refine lv_iload hx hb dX2_greatestTemperature_66 (lv_at hl 4 rfl) ?_
      refine lv_aload_n hx hb dX2_greatestTemperature_68 rfl (lv_at hl 0 rfl) ?_
      refine va_get (D := D) (ci := 2) (v := .ref (t 0)) (C := RX2) (T := TX2) (N := 5) hx hb hts hi_X2 hown hK hP 0 rfl rfl 2 (by decide) (hts (.fieldLink RX2 23 "Coldaisle" "trial" "LColdaisle$Hall;") (by decide +kernel)) (fun _ h9 => h9) rfl dX2_greatestTemperature_69 ?_
      refine va_get (D := D) (ci := 0) (v := .ref (t 1)) (C := RX0) (T := TX0) (N := 7) hx hb hts hi_X0 hown hK hP 9 rfl rfl 0 (by decide) (hts (.fieldLink RX2 110 "Coldaisle$Hall" "temperature" "[I") (by decide +kernel)) (fun _ h9 => h9) rfl dX2_greatestTemperature_72 ?_
      refine lv_iload_n hx hb dX2_greatestTemperature_75 rfl (lv_at hl 1 rfl) ?_
      refine k_iald hx hb hK hP 10 0 rfl rfl (i := z0) (by omega) (by decide) dX2_greatestTemperature_76 ?_
      refine va_mmax hx hb (by rw [hml]; exact hl.1.symm) hown (hts (.methodLink RX2 132 Lib.Math.max.name) (by decide +kernel)) (hts (.static Lib.Math.max.name) (by decide +kernel)) (hts (.initialized "java/lang/Math") (by decide +kernel)) (hts (.code Lib.Math.max.name Lib.Math.max.code 2 (some .int)) (by decide +kernel)) (Nat.le_of_ble_eq_true rfl) (Nat.le_of_ble_eq_true rfl) (Nat.zero_le _) (Nat.zero_le _) (x := gTop (fun k => sT (hRun gp gi am Lo Se Ef dl (k + 1) (hFail σ f)) z0) z) (y := (sT (hRun gp gi am Lo Se Ef dl (z + 1 + 1) (hFail σ f))) z0) dX2_greatestTemperature_77 ?_
      refine k_as (y := mMax (gTop (fun k => sT (hRun gp gi am Lo Se Ef dl (k + 1) (hFail σ f)) z0) z) ((sT (hRun gp gi am Lo Se Ef dl (z + 1 + 1) (hFail σ f))) z0)) rfl ?_
      refine lv_istore (lv' := [(4, .int (mMax (gTop (fun k => sT (hRun gp gi am Lo Se Ef dl (k + 1) (hFail σ f)) z0) z) ((sT (hRun gp gi am Lo Se Ef dl (z + 1 + 1) (hFail σ f))) z0))), (0, .ref (x 0)), (1, .int (nI z0)), (2, .int (nI (m9 + 1))), (3, .int (nI f)), (5, .int (nI (z + 1)))]) hx hb dX2_greatestTemperature_80 hl (by decide) rfl (fun ls hl => ?_)
      refine lv_iinc (v := nI (z + 1 + 1)) (lv' := [(5, .int (nI (z + 1 + 1))), (4, .int (mMax (gTop (fun k => sT (hRun gp gi am Lo Se Ef dl (k + 1) (hFail σ f)) z0) z) ((sT (hRun gp gi am Lo Se Ef dl (z + 1 + 1) (hFail σ f))) z0))), (0, .ref (x 0)), (1, .int (nI z0)), (2, .int (nI (m9 + 1))), (3, .int (nI f))]) hx hb dX2_greatestTemperature_82 hl (k := 5) rfl (k_inc _) (by decide) rfl (fun ls hl => ?_)
      refine lv_goto (tgt := 49) hx hb dX2_greatestTemperature_85 (by decide) ?_
      exact ih (z + 1) (by omega) H locs hP hD hS ls (lv_sub hl [2, 3, 4, 5, 1, 0] rfl)
  exact lp m9 0 (by omega) H locs hP hD hS ls (lv_sub hl [2, 3, 4, 5, 1, 0] rfl)

abbrev rmX2_criticalFan : Room := { frames := 5, cells := 0, slots := 0, locals := 117 }
set_option maxHeartbeats 4000000 in
set_option maxRecDepth 100000 in
/-- criticalFan -/
theorem c_X2_criticalFan (l : Launch) (D : va_G) (cI cZ cO cJ : ClassId) (x a t b : Nat → Nat) (ck : Nat) (Ho : Nat → Int32) (σ : HS) (T1 E1 D1 F1 S1 : Nat → Int32) (C1 : Nat → Nat → Int32) (la1 : Nat) (Lo Se : Nat → Int32) (Ef : Nat → Nat → Int32) (gp gi am li : Int32) (dl : Nat) (z0 m9 : Nat) (sz : Nat) (hz0 : z0 < 6) (hm : m9 < 60) (h8 : sL σ < 9) (h9 : dl < 9) (hFb : ∀ f : Nat, f < 8 → sF σ f = nI 0 ∨ sF σ f = nI 1) : kME l yX2_criticalFan wsX2_criticalFan rmX2_criticalFan D (kT cI cZ cO cJ) [.ref (x 0), .int (nI z0), .int (nI (m9 + 1))] (wC cI cZ cO x a t b ck Ho (sT σ) (sE σ) (sD σ) (sF σ) (sS σ) (sC σ) (sL σ) T1 E1 D1 F1 S1 C1 la1 Lo Se Ef gp gi am li dl) (fun u : HS => wC cI cZ cO x a t b ck Ho (sT σ) (sE σ) (sD σ) (sF σ) (sS σ) (sC σ) (sL σ) (sT u) (sE u) (sD u) (sF u) (sS u) (sC u) (sL u) Lo Se Ef gp gi am li dl) sz ((crit (sF σ) (fun f => gOf gp gi am Lo Se Ef dl (hFail σ f) z0 m9) 8).1) := by
  refine kEnter (cc := cX2_criticalFan) (maxL := 7) (ret := some .int) (by decide +kernel) rfl (Nat.le_of_ble_eq_true rfl) ?_
  intro p e s m below meth c args hx hb hr hml hts hown hlocks hin hK hN A hA9 Q hQ9 hP hD hsz hS hA ls hl
  have hl : lv_has ls 7 [(0, .ref (x 0)), (1, .int (nI z0)), (2, .int (nI (m9 + 1)))] := hl
  have hi_X2 : ∀ w ∈ u_ws RX2 TX2 5, w ∈ wsX2_criticalFan := by decide +kernel
  have hi_X0 : ∀ w ∈ u_ws RX0 TX0 7, w ∈ wsX2_criticalFan := by decide +kernel
  obtain ⟨H, hH9⟩ : ∃ H, H = s.heap := ⟨_, rfl⟩
  rw [← hH9] at hP ⊢
  have hS : va_S A s.heap H [] := by rw [hH9]; exact va_S.rf
  refine lv_iconst (v := (-1)) hx hb dX2_criticalFan_0 (by decide +kernel) ?_
  refine lv_istore_n (lv' := [(3, .int (-1)), (0, .ref (x 0)), (1, .int (nI z0)), (2, .int (nI (m9 + 1)))]) hx hb dX2_criticalFan_1 rfl hl (by decide) rfl (fun ls hl => ?_)
  refine lv_iconst (v := nI 0) hx hb dX2_criticalFan_2 (by decide +kernel) ?_
  refine lv_istore (lv' := [(4, .int (nI 0)), (3, .int (-1)), (0, .ref (x 0)), (1, .int (nI z0)), (2, .int (nI (m9 + 1)))]) hx hb dX2_criticalFan_3 hl (by decide) rfl (fun ls hl => ?_)
  refine lv_iconst (v := nI 0) hx hb dX2_criticalFan_5 (by decide +kernel) ?_
  refine lv_istore (lv' := [(5, .int (nI 0)), (4, .int (nI 0)), (3, .int (-1)), (0, .ref (x 0)), (1, .int (nI z0)), (2, .int (nI (m9 + 1)))]) hx hb dX2_criticalFan_6 hl (by decide) rfl (fun ls hl => ?_)
  have lp : ∀ (n z : Nat), z + n = 8 → ∀ (T1 E1 D1 F1 S1 : Nat → Int32) (C1 : Nat → Nat → Int32) (la1 : Nat), ∀ (H : Heap) (locs : List Loc), va_P D vwCl (wC cI cZ cO x a t b ck Ho (sT σ) (sE σ) (sD σ) (sF σ) (sS σ) (sC σ) (sL σ) T1 E1 D1 F1 S1 C1 la1 Lo Se Ef gp gi am li dl) H → va_D A (wC cI cZ cO x a t b ck Ho (sT σ) (sE σ) (sD σ) (sF σ) (sS σ) (sC σ) (sL σ) T1 E1 D1 F1 S1 C1 la1 Lo Se Ef gp gi am li dl) → va_S A s.heap H locs → ∀ ls : Array Slot, lv_has ls 7 [(0, .ref (x 0)), (1, .int (nI z0)), (2, .int (nI (m9 + 1))), (3, .int ((crit (sF σ) (fun f => gOf gp gi am Lo Se Ef dl (hFail σ f) z0 m9) z).1)), (4, .int ((crit (sF σ) (fun f => gOf gp gi am Lo Se Ef dl (hFail σ f) z0 m9) z).2)), (5, .int (nI z))] → W p l e rmX2_criticalFan s m args below meth c H locs 0 0 Q (F0 m 8 ls []) := by
    intro n
    induction n with
    | zero =>
      intro z hz T1 E1 D1 F1 S1 C1 la1 H locs hP hD hS ls hl
      have hz9 : z = 8 := by omega
      subst hz9
      refine lv_iload hx hb dX2_criticalFan_8 (lv_at hl 5 rfl) ?_
      refine lv_bipush (v := nI 8) hx hb dX2_criticalFan_10 (by decide +kernel) ?_
      refine lv_icmp_ge (tgt := 63) hx hb dX2_criticalFan_12 (by decide) (fun _ => ?_) (fun c9 => absurd (nI_le (Nat.le_refl 8) (by decide)) c9)
      refine lv_iload_n hx hb dX2_criticalFan_63 rfl (lv_at hl 3 rfl) ?_
      subst hQ9
      subst hA9
      exact kRetE_i (S := HS) (W1 := fun u : HS => wC cI cZ cO x a t b ck Ho (sT σ) (sE σ) (sD σ) (sF σ) (sS σ) (sC σ) (sL σ) (sT u) (sE u) (sD u) (sF u) (sS u) (sC u) (sL u) Lo Se Ef gp gi am li dl) (T1, E1, D1, F1, S1, C1, la1) hx hb hr hlocks hP hS dX2_criticalFan_64 rfl
    | succ n ih =>
      intro z hz T1 E1 D1 F1 S1 C1 la1 H locs hP hD hS ls hl
      have hzb : z < 8 := by omega
      refine lv_iload hx hb dX2_criticalFan_8 (lv_at hl 5 rfl) ?_
      refine lv_bipush (v := nI 8) hx hb dX2_criticalFan_10 (by decide +kernel) ?_
      refine lv_icmp_ge (tgt := 63) hx hb dX2_criticalFan_12 (by decide) (fun c9 => absurd c9 (nI_ge hzb (by decide))) (fun _ => ?_)
      refine lv_aload_n hx hb dX2_criticalFan_15 rfl (lv_at hl 0 rfl) ?_
      refine va_get (D := D) (ci := 2) (v := .ref (a 0)) (C := RX2) (T := TX2) (N := 5) hx hb hts hi_X2 hown hK hP 0 rfl rfl 1 (by decide) (hts (.fieldLink RX2 19 "Coldaisle" "hall" "LColdaisle$Hall;") (by decide +kernel)) (fun _ h9 => h9) rfl dX2_criticalFan_16 ?_
      refine va_get (D := D) (ci := 0) (v := .ref (a 4)) (C := RX0) (T := TX0) (N := 7) hx hb hts hi_X0 hown hK hP 2 rfl rfl 3 (by decide) (hts (.fieldLink RX2 73 "Coldaisle$Hall" "failed" "[Z") (by decide +kernel)) (fun _ h9 => h9) rfl dX2_criticalFan_19 ?_
      refine lv_iload hx hb dX2_criticalFan_22 (lv_at hl 5 rfl) ?_
      refine k_zald hx hb hK hP 6 1 rfl rfl (i := z) (by omega) (by decide) dX2_criticalFan_24 ?_
      refine lv_if_ne (tgt := 57) hx hb dX2_criticalFan_25 (by decide) (fun c1 => ?_) (fun c1 => ?_)
      · refine lv_iinc (v := nI (z + 1)) (lv' := [(5, .int (nI (z + 1))), (0, .ref (x 0)), (1, .int (nI z0)), (2, .int (nI (m9 + 1))), (3, .int ((crit (sF σ) (fun f => gOf gp gi am Lo Se Ef dl (hFail σ f) z0 m9) z).1)), (4, .int ((crit (sF σ) (fun f => gOf gp gi am Lo Se Ef dl (hFail σ f) z0 m9) z).2))]) hx hb dX2_criticalFan_57 hl (k := 5) rfl (k_inc _) (by decide) rfl (fun ls hl => ?_)
        refine lv_goto (tgt := 8) hx hb dX2_criticalFan_60 (by decide) ?_
        exact ih (z + 1) (by omega) _ _ _ _ _ _ _ H locs hP hD hS ls (by rw [crit_a (sF σ) (fun f => gOf gp gi am Lo Se Ef dl (hFail σ f) z0 m9) z c1]; exact (lv_sub hl [1, 2, 3, 4, 5, 0] rfl))
      · refine lv_aload_n hx hb dX2_criticalFan_28 rfl (lv_at hl 0 rfl) ?_
        refine lv_iload_n hx hb dX2_criticalFan_29 rfl (lv_at hl 1 rfl) ?_
        refine lv_iload_n hx hb dX2_criticalFan_30 rfl (lv_at hl 2 rfl) ?_
        refine lv_iload hx hb dX2_criticalFan_31 (lv_at hl 5 rfl) ?_
        refine kCallW_i (W1 := wC cI cZ cO x a t b ck Ho (sT σ) (sE σ) (sD σ) (sF σ) (sS σ) (sC σ) (sL σ) (sT (hRun gp gi am Lo Se Ef dl (m9 + 1) (hFail σ z))) (sE (hRun gp gi am Lo Se Ef dl (m9 + 1) (hFail σ z))) (sD (hRun gp gi am Lo Se Ef dl (m9 + 1) (hFail σ z))) (sF (hRun gp gi am Lo Se Ef dl (m9 + 1) (hFail σ z))) (sS (hRun gp gi am Lo Se Ef dl (m9 + 1) (hFail σ z))) (sC (hRun gp gi am Lo Se Ef dl (m9 + 1) (hFail σ z))) (sL (hRun gp gi am Lo Se Ef dl (m9 + 1) (hFail σ z))) Lo Se Ef gp gi am li dl) hD hS hA rfl (va_runV (As := [.int (nI z0), .int (nI (m9 + 1)), .int (nI z)]) (rest := []) ⟨hx, hb, hml, hown, hts⟩ (c_X2_greatestTemperature_f l D cI cZ cO cJ x a t b ck Ho σ T1 E1 D1 F1 S1 C1 la1 Lo Se Ef gp gi am li dl z0 m9 z H.size (by omega) (by omega) (by omega) h8 h9 hFb) (cwV (rm := rmX2_greatestTemperature) 3 hts gX2_criticalFan_X2_greatestTemperature rfl rfl rfl (by decide +kernel) ⟨Nat.le_of_ble_eq_true rfl, Nat.le_of_ble_eq_true rfl⟩) (kPreVW hK hN hP hD (va_recv hK hP (ci := 2) (q0 := 0) rfl rfl)) rfl rfl hl.1 rfl (lv_room (Nat.le_of_ble_eq_true rfl)) dX2_criticalFan_33 ⟨Nat.zero_le _, Nat.zero_le _⟩) (fun H locs hP hD hS => ?_)
        refine lv_istore (lv' := [(6, .int (gOf gp gi am Lo Se Ef dl (hFail σ z) z0 m9)), (0, .ref (x 0)), (1, .int (nI z0)), (2, .int (nI (m9 + 1))), (3, .int ((crit (sF σ) (fun f => gOf gp gi am Lo Se Ef dl (hFail σ f) z0 m9) z).1)), (4, .int ((crit (sF σ) (fun f => gOf gp gi am Lo Se Ef dl (hFail σ f) z0 m9) z).2)), (5, .int (nI z))]) hx hb dX2_criticalFan_36 hl (by decide) rfl (fun ls hl => ?_)
        refine lv_iload_n hx hb dX2_criticalFan_38 rfl (lv_at hl 4 rfl) ?_
        refine lv_iconst (v := (-1)) hx hb dX2_criticalFan_39 (by decide +kernel) ?_
        refine lv_icmp_eq (tgt := 50) hx hb dX2_criticalFan_40 (by decide) (fun c2 => ?_) (fun c2 => ?_)
        · refine lv_iload hx hb dX2_criticalFan_50 (lv_at hl 6 rfl) ?_
          refine lv_istore_n (lv' := [(3, .int (nI z)), (6, .int (gOf gp gi am Lo Se Ef dl (hFail σ z) z0 m9)), (0, .ref (x 0)), (1, .int (nI z0)), (2, .int (nI (m9 + 1))), (4, .int ((crit (sF σ) (fun f => gOf gp gi am Lo Se Ef dl (hFail σ f) z0 m9) z).2)), (5, .int (nI z))]) hx hb dX2_criticalFan_52 rfl hl (by decide) rfl (fun ls hl => ?_)
          refine lv_iload hx hb dX2_criticalFan_53 (lv_at hl 1 rfl) ?_
          refine lv_istore (lv' := [(4, .int (gOf gp gi am Lo Se Ef dl (hFail σ z) z0 m9)), (3, .int (nI z)), (6, .int (gOf gp gi am Lo Se Ef dl (hFail σ z) z0 m9)), (0, .ref (x 0)), (1, .int (nI z0)), (2, .int (nI (m9 + 1))), (5, .int (nI z))]) hx hb dX2_criticalFan_55 hl (by decide) rfl (fun ls hl => ?_)
          refine lv_iinc (v := nI (z + 1)) (lv' := [(5, .int (nI (z + 1))), (4, .int (gOf gp gi am Lo Se Ef dl (hFail σ z) z0 m9)), (3, .int (nI z)), (6, .int (gOf gp gi am Lo Se Ef dl (hFail σ z) z0 m9)), (0, .ref (x 0)), (1, .int (nI z0)), (2, .int (nI (m9 + 1)))]) hx hb dX2_criticalFan_57 hl (k := 6) rfl (k_inc _) (by decide) rfl (fun ls hl => ?_)
          refine lv_goto (tgt := 8) hx hb dX2_criticalFan_60 (by decide) ?_
          exact ih (z + 1) (by omega) _ _ _ _ _ _ _ H locs hP hD hS ls (by rw [crit_b (sF σ) (fun f => gOf gp gi am Lo Se Ef dl (hFail σ f) z0 m9) z c1 c2]; exact (lv_sub hl [4, 5, 6, 2, 1, 0] rfl))
        · refine lv_iload hx hb dX2_criticalFan_43 (lv_at hl 0 rfl) ?_
          refine lv_iload hx hb dX2_criticalFan_45 (lv_at hl 5 rfl) ?_
          refine lv_icmp_le (tgt := 57) hx hb dX2_criticalFan_47 (by decide) (fun c3 => ?_) (fun c3 => ?_)
          · refine lv_iinc (v := nI (z + 1)) (lv' := [(5, .int (nI (z + 1))), (6, .int (gOf gp gi am Lo Se Ef dl (hFail σ z) z0 m9)), (0, .ref (x 0)), (1, .int (nI z0)), (2, .int (nI (m9 + 1))), (3, .int ((crit (sF σ) (fun f => gOf gp gi am Lo Se Ef dl (hFail σ f) z0 m9) z).1)), (4, .int ((crit (sF σ) (fun f => gOf gp gi am Lo Se Ef dl (hFail σ f) z0 m9) z).2))]) hx hb dX2_criticalFan_57 hl (k := 6) rfl (k_inc _) (by decide) rfl (fun ls hl => ?_)
            refine lv_goto (tgt := 8) hx hb dX2_criticalFan_60 (by decide) ?_
            exact ih (z + 1) (by omega) _ _ _ _ _ _ _ H locs hP hD hS ls (by rw [crit_c (sF σ) (fun f => gOf gp gi am Lo Se Ef dl (hFail σ f) z0 m9) z c1 c2 c3]; exact (lv_sub hl [2, 3, 4, 5, 6, 0] rfl))
          · refine lv_iload hx hb dX2_criticalFan_50 (lv_at hl 6 rfl) ?_
            refine lv_istore_n (lv' := [(3, .int (nI z)), (6, .int (gOf gp gi am Lo Se Ef dl (hFail σ z) z0 m9)), (0, .ref (x 0)), (1, .int (nI z0)), (2, .int (nI (m9 + 1))), (4, .int ((crit (sF σ) (fun f => gOf gp gi am Lo Se Ef dl (hFail σ f) z0 m9) z).2)), (5, .int (nI z))]) hx hb dX2_criticalFan_52 rfl hl (by decide) rfl (fun ls hl => ?_)
            refine lv_iload hx hb dX2_criticalFan_53 (lv_at hl 1 rfl) ?_
            refine lv_istore (lv' := [(4, .int (gOf gp gi am Lo Se Ef dl (hFail σ z) z0 m9)), (3, .int (nI z)), (6, .int (gOf gp gi am Lo Se Ef dl (hFail σ z) z0 m9)), (0, .ref (x 0)), (1, .int (nI z0)), (2, .int (nI (m9 + 1))), (5, .int (nI z))]) hx hb dX2_criticalFan_55 hl (by decide) rfl (fun ls hl => ?_)
            refine lv_iinc (v := nI (z + 1)) (lv' := [(5, .int (nI (z + 1))), (4, .int (gOf gp gi am Lo Se Ef dl (hFail σ z) z0 m9)), (3, .int (nI z)), (6, .int (gOf gp gi am Lo Se Ef dl (hFail σ z) z0 m9)), (0, .ref (x 0)), (1, .int (nI z0)), (2, .int (nI (m9 + 1)))]) hx hb dX2_criticalFan_57 hl (k := 6) rfl (k_inc _) (by decide) rfl (fun ls hl => ?_)
            refine lv_goto (tgt := 8) hx hb dX2_criticalFan_60 (by decide) ?_
            exact ih (z + 1) (by omega) _ _ _ _ _ _ _ H locs hP hD hS ls (by rw [crit_d (sF σ) (fun f => gOf gp gi am Lo Se Ef dl (hFail σ f) z0 m9) z c1 c2 c3]; exact (lv_sub hl [4, 5, 6, 2, 1, 0] rfl))
  exact lp 8 0 rfl _ _ _ _ _ _ _ H [] hP hD hS ls (lv_sub hl [3, 4, 5, 2, 1, 0] rfl)

abbrev rmX2_expected : Room := { frames := 5, cells := 0, slots := 0, locals := 117 }
set_option maxHeartbeats 4000000 in
set_option maxRecDepth 100000 in
/-- expected -/
theorem c_X2_expected (l : Launch) (D : va_G) (cI cZ cO cJ : ClassId) (x a t b : Nat → Nat) (ck : Nat) (Ho : Nat → Int32) (σ : HS) (T1 E1 D1 F1 S1 : Nat → Int32) (C1 : Nat → Nat → Int32) (la1 : Nat) (Lo Se : Nat → Int32) (Ef : Nat → Nat → Int32) (gp gi am li : Int32) (dl : Nat) (z0 m9 : Nat) (sz : Nat) (hz0 : z0 < 6) (hm : m9 < 60) (h8 : sL σ < 9) (h9 : dl < 9) (hFb : ∀ f : Nat, f < 8 → sF σ f = nI 0 ∨ sF σ f = nI 1) : kME l yX2_expected wsX2_expected rmX2_expected D (kT cI cZ cO cJ) [.ref (x 0), .int (nI z0), .int (nI (m9 + 1))] (wC cI cZ cO x a t b ck Ho (sT σ) (sE σ) (sD σ) (sF σ) (sS σ) (sC σ) (sL σ) T1 E1 D1 F1 S1 C1 la1 Lo Se Ef gp gi am li dl) (fun u : HS => wC cI cZ cO x a t b ck Ho (sT σ) (sE σ) (sD σ) (sF σ) (sS σ) (sC σ) (sL σ) (sT u) (sE u) (sD u) (sF u) (sS u) (sC u) (sL u) Lo Se Ef gp gi am li dl) sz (gOf gp gi am Lo Se Ef dl σ z0 m9) := by
  refine kEnter (cc := cX2_expected) (maxL := 3) (ret := some .int) (by decide +kernel) rfl (Nat.le_of_ble_eq_true rfl) ?_
  intro p e s m below meth c args hx hb hr hml hts hown hlocks hin hK hN A hA9 Q hQ9 hP hD hsz hS hA ls hl
  have hl : lv_has ls 3 [(0, .ref (x 0)), (1, .int (nI z0)), (2, .int (nI (m9 + 1)))] := hl
  have hi_X2 : ∀ w ∈ u_ws RX2 TX2 5, w ∈ wsX2_expected := by decide +kernel
  obtain ⟨H, hH9⟩ : ∃ H, H = s.heap := ⟨_, rfl⟩
  rw [← hH9] at hP ⊢
  have hS : va_S A s.heap H [] := by rw [hH9]; exact va_S.rf
  refine lv_iload_n hx hb dX2_expected_0 rfl (lv_at hl 1 rfl) ?_
  refine lv_iload_n hx hb dX2_expected_1 rfl (lv_at hl 2 rfl) ?_
  refine kCall_v (W0 := []) (W1 := []) hP hD hS hA [] rfl rfl (va_runS (As := [.int (nI z0), .int (nI (m9 + 1))]) (rest := []) ⟨hx, hb, hml, hown, hts⟩ (c_X2_requireForecast l D cI cZ cO cJ (nI z0) (nI (m9 + 1)) H.size (nI_nlt (by omega) (by omega)) (nI_le (by omega) (by decide)) (nI_nlt (by omega) (by omega)) (nI_le (by omega) (by decide))) (va_cwS (rm := rmX2_requireForecast) 2 hts gX2_expected_X2_requireForecast rfl rfl rfl (by decide +kernel) ⟨Nat.le_of_ble_eq_true rfl, Nat.le_of_ble_eq_true rfl⟩) (kPreS hK hN hP hD [] rfl rfl) rfl rfl hl.1 rfl (lv_room (Nat.le_of_ble_eq_true rfl)) dX2_expected_2 ⟨Nat.zero_le _, Nat.zero_le _⟩) (fun H locs hP hD hS => ?_)
  have hP : va_P D vwCl (wC cI cZ cO x a t b ck Ho (sT σ) (sE σ) (sD σ) (sF σ) (sS σ) (sC σ) (sL σ) T1 E1 D1 F1 S1 C1 la1 Lo Se Ef gp gi am li dl) H := hP
  have hD : va_D A (wC cI cZ cO x a t b ck Ho (sT σ) (sE σ) (sD σ) (sF σ) (sS σ) (sC σ) (sL σ) T1 E1 D1 F1 S1 C1 la1 Lo Se Ef gp gi am li dl) := hD
  refine lv_aload_n hx hb dX2_expected_5 rfl (lv_at hl 0 rfl) ?_
  refine lv_iload_n hx hb dX2_expected_6 rfl (lv_at hl 1 rfl) ?_
  refine lv_iload_n hx hb dX2_expected_7 rfl (lv_at hl 2 rfl) ?_
  refine lv_iconst (v := (-1)) hx hb dX2_expected_8 (by decide +kernel) ?_
  refine kCallW_i (W1 := wC cI cZ cO x a t b ck Ho (sT σ) (sE σ) (sD σ) (sF σ) (sS σ) (sC σ) (sL σ) (sT (hRun gp gi am Lo Se Ef dl (m9 + 1) σ)) (sE (hRun gp gi am Lo Se Ef dl (m9 + 1) σ)) (sD (hRun gp gi am Lo Se Ef dl (m9 + 1) σ)) (sF (hRun gp gi am Lo Se Ef dl (m9 + 1) σ)) (sS (hRun gp gi am Lo Se Ef dl (m9 + 1) σ)) (sC (hRun gp gi am Lo Se Ef dl (m9 + 1) σ)) (sL (hRun gp gi am Lo Se Ef dl (m9 + 1) σ)) Lo Se Ef gp gi am li dl) hD hS hA rfl (va_runV (As := [.int (nI z0), .int (nI (m9 + 1)), .int (-1)]) (rest := []) ⟨hx, hb, hml, hown, hts⟩ (c_X2_greatestTemperature_n l D cI cZ cO cJ x a t b ck Ho σ T1 E1 D1 F1 S1 C1 la1 Lo Se Ef gp gi am li dl z0 m9 H.size (by omega) (by omega) h8 h9 hFb) (cwV (rm := rmX2_greatestTemperature) 3 hts gX2_expected_X2_greatestTemperature rfl rfl rfl (by decide +kernel) ⟨Nat.le_of_ble_eq_true rfl, Nat.le_of_ble_eq_true rfl⟩) (kPreVW hK hN hP hD (va_recv hK hP (ci := 2) (q0 := 0) rfl rfl)) rfl rfl hl.1 rfl (lv_room (Nat.le_of_ble_eq_true rfl)) dX2_expected_9 ⟨Nat.zero_le _, Nat.zero_le _⟩) (fun H locs hP hD hS => ?_)
  subst hQ9
  subst hA9
  exact kRetE_i (S := HS) (W1 := fun u : HS => wC cI cZ cO x a t b ck Ho (sT σ) (sE σ) (sD σ) (sF σ) (sS σ) (sC σ) (sL σ) (sT u) (sE u) (sD u) (sF u) (sS u) (sC u) (sL u) Lo Se Ef gp gi am li dl) (sT (hRun gp gi am Lo Se Ef dl (m9 + 1) σ), sE (hRun gp gi am Lo Se Ef dl (m9 + 1) σ), sD (hRun gp gi am Lo Se Ef dl (m9 + 1) σ), sF (hRun gp gi am Lo Se Ef dl (m9 + 1) σ), sS (hRun gp gi am Lo Se Ef dl (m9 + 1) σ), sC (hRun gp gi am Lo Se Ef dl (m9 + 1) σ), sL (hRun gp gi am Lo Se Ef dl (m9 + 1) σ)) hx hb hr hlocks hP hS dX2_expected_12 rfl

abbrev rmX2_critical : Room := { frames := 6, cells := 0, slots := 0, locals := 143 }
set_option maxHeartbeats 4000000 in
set_option maxRecDepth 100000 in
/-- critical -/
theorem c_X2_critical (l : Launch) (D : va_G) (cI cZ cO cJ : ClassId) (x a t b : Nat → Nat) (ck : Nat) (Ho : Nat → Int32) (σ : HS) (T1 E1 D1 F1 S1 : Nat → Int32) (C1 : Nat → Nat → Int32) (la1 : Nat) (Lo Se : Nat → Int32) (Ef : Nat → Nat → Int32) (gp gi am li : Int32) (dl : Nat) (z0 m9 : Nat) (sz : Nat) (hz0 : z0 < 6) (hm : m9 < 60) (h8 : sL σ < 9) (h9 : dl < 9) (hFb : ∀ f : Nat, f < 8 → sF σ f = nI 0 ∨ sF σ f = nI 1) : kME l yX2_critical wsX2_critical rmX2_critical D (kT cI cZ cO cJ) [.ref (x 0), .int (nI z0), .int (nI (m9 + 1))] (wC cI cZ cO x a t b ck Ho (sT σ) (sE σ) (sD σ) (sF σ) (sS σ) (sC σ) (sL σ) T1 E1 D1 F1 S1 C1 la1 Lo Se Ef gp gi am li dl) (fun u : HS => wC cI cZ cO x a t b ck Ho (sT σ) (sE σ) (sD σ) (sF σ) (sS σ) (sC σ) (sL σ) (sT u) (sE u) (sD u) (sF u) (sS u) (sC u) (sL u) Lo Se Ef gp gi am li dl) sz ((crit (sF σ) (fun f => gOf gp gi am Lo Se Ef dl (hFail σ f) z0 m9) 8).1) := by
  refine kEnter (cc := cX2_critical) (maxL := 3) (ret := some .int) (by decide +kernel) rfl (Nat.le_of_ble_eq_true rfl) ?_
  intro p e s m below meth c args hx hb hr hml hts hown hlocks hin hK hN A hA9 Q hQ9 hP hD hsz hS hA ls hl
  have hl : lv_has ls 3 [(0, .ref (x 0)), (1, .int (nI z0)), (2, .int (nI (m9 + 1)))] := hl
  have hi_X2 : ∀ w ∈ u_ws RX2 TX2 5, w ∈ wsX2_critical := by decide +kernel
  obtain ⟨H, hH9⟩ : ∃ H, H = s.heap := ⟨_, rfl⟩
  rw [← hH9] at hP ⊢
  have hS : va_S A s.heap H [] := by rw [hH9]; exact va_S.rf
  refine lv_iload_n hx hb dX2_critical_0 rfl (lv_at hl 1 rfl) ?_
  refine lv_iload_n hx hb dX2_critical_1 rfl (lv_at hl 2 rfl) ?_
  refine kCall_v (W0 := []) (W1 := []) hP hD hS hA [] rfl rfl (va_runS (As := [.int (nI z0), .int (nI (m9 + 1))]) (rest := []) ⟨hx, hb, hml, hown, hts⟩ (c_X2_requireForecast l D cI cZ cO cJ (nI z0) (nI (m9 + 1)) H.size (nI_nlt (by omega) (by omega)) (nI_le (by omega) (by decide)) (nI_nlt (by omega) (by omega)) (nI_le (by omega) (by decide))) (va_cwS (rm := rmX2_requireForecast) 2 hts gX2_critical_X2_requireForecast rfl rfl rfl (by decide +kernel) ⟨Nat.le_of_ble_eq_true rfl, Nat.le_of_ble_eq_true rfl⟩) (kPreS hK hN hP hD [] rfl rfl) rfl rfl hl.1 rfl (lv_room (Nat.le_of_ble_eq_true rfl)) dX2_critical_2 ⟨Nat.zero_le _, Nat.zero_le _⟩) (fun H locs hP hD hS => ?_)
  have hP : va_P D vwCl (wC cI cZ cO x a t b ck Ho (sT σ) (sE σ) (sD σ) (sF σ) (sS σ) (sC σ) (sL σ) T1 E1 D1 F1 S1 C1 la1 Lo Se Ef gp gi am li dl) H := hP
  have hD : va_D A (wC cI cZ cO x a t b ck Ho (sT σ) (sE σ) (sD σ) (sF σ) (sS σ) (sC σ) (sL σ) T1 E1 D1 F1 S1 C1 la1 Lo Se Ef gp gi am li dl) := hD
  refine lv_aload_n hx hb dX2_critical_5 rfl (lv_at hl 0 rfl) ?_
  refine lv_iload_n hx hb dX2_critical_6 rfl (lv_at hl 1 rfl) ?_
  refine lv_iload_n hx hb dX2_critical_7 rfl (lv_at hl 2 rfl) ?_
  refine kCallWE_i (S := HS) (W1 := fun u : HS => wC cI cZ cO x a t b ck Ho (sT σ) (sE σ) (sD σ) (sF σ) (sS σ) (sC σ) (sL σ) (sT u) (sE u) (sD u) (sF u) (sS u) (sC u) (sL u) Lo Se Ef gp gi am li dl) hD hS hA (fun _ => rfl) (va_runV (As := [.int (nI z0), .int (nI (m9 + 1))]) (rest := []) ⟨hx, hb, hml, hown, hts⟩ (c_X2_criticalFan l D cI cZ cO cJ x a t b ck Ho σ T1 E1 D1 F1 S1 C1 la1 Lo Se Ef gp gi am li dl z0 m9 H.size (by omega) (by omega) h8 h9 hFb) (cwV (rm := rmX2_criticalFan) 2 hts gX2_critical_X2_criticalFan rfl rfl rfl (by decide +kernel) ⟨Nat.le_of_ble_eq_true rfl, Nat.le_of_ble_eq_true rfl⟩) (kPreVW hK hN hP hD (va_recv hK hP (ci := 2) (q0 := 0) rfl rfl)) rfl rfl hl.1 rfl (lv_room (Nat.le_of_ble_eq_true rfl)) dX2_critical_8 ⟨Nat.zero_le _, Nat.zero_le _⟩) (fun u H locs hP hD hS => ?_)
  subst hQ9
  subst hA9
  exact kRetE_i (S := HS) (W1 := fun u : HS => wC cI cZ cO x a t b ck Ho (sT σ) (sE σ) (sD σ) (sF σ) (sS σ) (sC σ) (sL σ) (sT u) (sE u) (sD u) (sF u) (sS u) (sC u) (sL u) Lo Se Ef gp gi am li dl) (sT u, sE u, sD u, sF u, sS u, sC u, sL u) hx hb hr hlocks hP hS dX2_critical_11 rfl

abbrev rmX2_margin : Room := { frames := 6, cells := 0, slots := 0, locals := 143 }
set_option maxHeartbeats 4000000 in
set_option maxRecDepth 100000 in
/-- margin -/
theorem c_X2_margin (l : Launch) (D : va_G) (cI cZ cO cJ : ClassId) (x a t b : Nat → Nat) (ck : Nat) (Ho : Nat → Int32) (σ : HS) (T1 E1 D1 F1 S1 : Nat → Int32) (C1 : Nat → Nat → Int32) (la1 : Nat) (Lo Se : Nat → Int32) (Ef : Nat → Nat → Int32) (gp gi am li : Int32) (dl : Nat) (z0 m9 : Nat) (sz : Nat) (hz0 : z0 < 6) (hm : m9 < 60) (h8 : sL σ < 9) (h9 : dl < 9) (hFb : ∀ f : Nat, f < 8 → sF σ f = nI 0 ∨ sF σ f = nI 1) : kME l yX2_margin wsX2_margin rmX2_margin D (kT cI cZ cO cJ) [.ref (x 0), .int (nI z0), .int (nI (m9 + 1))] (wC cI cZ cO x a t b ck Ho (sT σ) (sE σ) (sD σ) (sF σ) (sS σ) (sC σ) (sL σ) T1 E1 D1 F1 S1 C1 la1 Lo Se Ef gp gi am li dl) (fun u : HS => wC cI cZ cO x a t b ck Ho (sT σ) (sE σ) (sD σ) (sF σ) (sS σ) (sC σ) (sL σ) (sT u) (sE u) (sD u) (sF u) (sS u) (sC u) (sL u) Lo Se Ef gp gi am li dl) sz (li - gAny gp gi am Lo Se Ef dl σ z0 m9 (crit (sF σ) (fun f => gOf gp gi am Lo Se Ef dl (hFail σ f) z0 m9) 8).1) := by
  refine kEnter (cc := cX2_margin) (maxL := 4) (ret := some .int) (by decide +kernel) rfl (Nat.le_of_ble_eq_true rfl) ?_
  intro p e s m below meth c args hx hb hr hml hts hown hlocks hin hK hN A hA9 Q hQ9 hP hD hsz hS hA ls hl
  have hl : lv_has ls 4 [(0, .ref (x 0)), (1, .int (nI z0)), (2, .int (nI (m9 + 1)))] := hl
  have hi_X2 : ∀ w ∈ u_ws RX2 TX2 5, w ∈ wsX2_margin := by decide +kernel
  have hi_X1 : ∀ w ∈ u_ws RX1 TX1 8, w ∈ wsX2_margin := by decide +kernel
  obtain ⟨H, hH9⟩ : ∃ H, H = s.heap := ⟨_, rfl⟩
  rw [← hH9] at hP ⊢
  have hS : va_S A s.heap H [] := by rw [hH9]; exact va_S.rf
  refine lv_iload_n hx hb dX2_margin_0 rfl (lv_at hl 1 rfl) ?_
  refine lv_iload_n hx hb dX2_margin_1 rfl (lv_at hl 2 rfl) ?_
  refine kCall_v (W0 := []) (W1 := []) hP hD hS hA [] rfl rfl (va_runS (As := [.int (nI z0), .int (nI (m9 + 1))]) (rest := []) ⟨hx, hb, hml, hown, hts⟩ (c_X2_requireForecast l D cI cZ cO cJ (nI z0) (nI (m9 + 1)) H.size (nI_nlt (by omega) (by omega)) (nI_le (by omega) (by decide)) (nI_nlt (by omega) (by omega)) (nI_le (by omega) (by decide))) (va_cwS (rm := rmX2_requireForecast) 2 hts gX2_margin_X2_requireForecast rfl rfl rfl (by decide +kernel) ⟨Nat.le_of_ble_eq_true rfl, Nat.le_of_ble_eq_true rfl⟩) (kPreS hK hN hP hD [] rfl rfl) rfl rfl hl.1 rfl (lv_room (Nat.le_of_ble_eq_true rfl)) dX2_margin_2 ⟨Nat.zero_le _, Nat.zero_le _⟩) (fun H locs hP hD hS => ?_)
  have hP : va_P D vwCl (wC cI cZ cO x a t b ck Ho (sT σ) (sE σ) (sD σ) (sF σ) (sS σ) (sC σ) (sL σ) T1 E1 D1 F1 S1 C1 la1 Lo Se Ef gp gi am li dl) H := hP
  have hD : va_D A (wC cI cZ cO x a t b ck Ho (sT σ) (sE σ) (sD σ) (sF σ) (sS σ) (sC σ) (sL σ) T1 E1 D1 F1 S1 C1 la1 Lo Se Ef gp gi am li dl) := hD
  refine lv_aload_n hx hb dX2_margin_5 rfl (lv_at hl 0 rfl) ?_
  refine lv_iload_n hx hb dX2_margin_6 rfl (lv_at hl 1 rfl) ?_
  refine lv_iload_n hx hb dX2_margin_7 rfl (lv_at hl 2 rfl) ?_
  refine kCallWE_i (S := HS) (W1 := fun u : HS => wC cI cZ cO x a t b ck Ho (sT σ) (sE σ) (sD σ) (sF σ) (sS σ) (sC σ) (sL σ) (sT u) (sE u) (sD u) (sF u) (sS u) (sC u) (sL u) Lo Se Ef gp gi am li dl) hD hS hA (fun _ => rfl) (va_runV (As := [.int (nI z0), .int (nI (m9 + 1))]) (rest := []) ⟨hx, hb, hml, hown, hts⟩ (c_X2_criticalFan l D cI cZ cO cJ x a t b ck Ho σ T1 E1 D1 F1 S1 C1 la1 Lo Se Ef gp gi am li dl z0 m9 H.size (by omega) (by omega) h8 h9 hFb) (cwV (rm := rmX2_criticalFan) 2 hts gX2_margin_X2_criticalFan rfl rfl rfl (by decide +kernel) ⟨Nat.le_of_ble_eq_true rfl, Nat.le_of_ble_eq_true rfl⟩) (kPreVW hK hN hP hD (va_recv hK hP (ci := 2) (q0 := 0) rfl rfl)) rfl rfl hl.1 rfl (lv_room (Nat.le_of_ble_eq_true rfl)) dX2_margin_8 ⟨Nat.zero_le _, Nat.zero_le _⟩) (fun u H locs hP hD hS => ?_)
  refine lv_istore_n (lv' := [(3, .int ((crit (sF σ) (fun f => gOf gp gi am Lo Se Ef dl (hFail σ f) z0 m9) 8).1)), (0, .ref (x 0)), (1, .int (nI z0)), (2, .int (nI (m9 + 1)))]) hx hb dX2_margin_11 rfl hl (by decide) rfl (fun ls hl => ?_)
  refine lv_aload_n hx hb dX2_margin_12 rfl (lv_at hl 1 rfl) ?_
  refine va_get (D := D) (ci := 2) (v := .ref (b 0)) (C := RX2) (T := TX2) (N := 5) hx hb hts hi_X2 hown hK hP 0 rfl rfl 0 (by decide) (hts (.fieldLink RX2 10 "Coldaisle" "settings" "LColdaisle$Settings;") (by decide +kernel)) (fun _ h9 => h9) rfl dX2_margin_13 ?_
  refine va_get (D := D) (ci := 1) (v := .int li) (C := RX1) (T := TX1) (N := 8) hx hb hts hi_X1 hown hK hP 16 rfl rfl 6 (by decide) (hts (.fieldLink RX2 67 "Coldaisle$Settings" "limit" "I") (by decide +kernel)) (fun _ h9 => h9) rfl dX2_margin_16 ?_
  refine lv_aload_n hx hb dX2_margin_19 rfl (lv_at hl 1 rfl) ?_
  refine lv_iload_n hx hb dX2_margin_20 rfl (lv_at hl 2 rfl) ?_
  refine lv_iload_n hx hb dX2_margin_21 rfl (lv_at hl 3 rfl) ?_
  refine lv_iload_n hx hb dX2_margin_22 rfl (lv_at hl 0 rfl) ?_
  rcases crit_or (sF σ) (fun f => gOf gp gi am Lo Se Ef dl (hFail σ f) z0 m9) 8 with hc9 | ⟨f, hf, hc9⟩
  · rw [hc9] at hl ⊢
    refine kCallW_i (W1 := wC cI cZ cO x a t b ck Ho (sT σ) (sE σ) (sD σ) (sF σ) (sS σ) (sC σ) (sL σ) (sT (hRun gp gi am Lo Se Ef dl (m9 + 1) σ)) (sE (hRun gp gi am Lo Se Ef dl (m9 + 1) σ)) (sD (hRun gp gi am Lo Se Ef dl (m9 + 1) σ)) (sF (hRun gp gi am Lo Se Ef dl (m9 + 1) σ)) (sS (hRun gp gi am Lo Se Ef dl (m9 + 1) σ)) (sC (hRun gp gi am Lo Se Ef dl (m9 + 1) σ)) (sL (hRun gp gi am Lo Se Ef dl (m9 + 1) σ)) Lo Se Ef gp gi am li dl) hD hS hA rfl (va_runV (As := [.int (nI z0), .int (nI (m9 + 1)), .int (-1)]) (rest := [.int li]) ⟨hx, hb, hml, hown, hts⟩ (c_X2_greatestTemperature_n l D cI cZ cO cJ x a t b ck Ho σ (sT u) (sE u) (sD u) (sF u) (sS u) (sC u) (sL u) Lo Se Ef gp gi am li dl z0 m9 H.size (by omega) (by omega) h8 h9 hFb) (cwV (rm := rmX2_greatestTemperature) 3 hts gX2_margin_X2_greatestTemperature rfl rfl rfl (by decide +kernel) ⟨Nat.le_of_ble_eq_true rfl, Nat.le_of_ble_eq_true rfl⟩) (kPreVW hK hN hP hD (va_recv hK hP (ci := 2) (q0 := 0) rfl rfl)) rfl rfl hl.1 rfl (lv_room (Nat.le_of_ble_eq_true rfl)) dX2_margin_23 ⟨Nat.zero_le _, Nat.zero_le _⟩) (fun H locs hP hD hS => ?_)
    refine lv_isub hx hb dX2_margin_26 ?_
    subst hQ9
    subst hA9
    exact kRetE_i (S := HS) (W1 := fun u : HS => wC cI cZ cO x a t b ck Ho (sT σ) (sE σ) (sD σ) (sF σ) (sS σ) (sC σ) (sL σ) (sT u) (sE u) (sD u) (sF u) (sS u) (sC u) (sL u) Lo Se Ef gp gi am li dl) (sT (hRun gp gi am Lo Se Ef dl (m9 + 1) σ), sE (hRun gp gi am Lo Se Ef dl (m9 + 1) σ), sD (hRun gp gi am Lo Se Ef dl (m9 + 1) σ), sF (hRun gp gi am Lo Se Ef dl (m9 + 1) σ), sS (hRun gp gi am Lo Se Ef dl (m9 + 1) σ), sC (hRun gp gi am Lo Se Ef dl (m9 + 1) σ), sL (hRun gp gi am Lo Se Ef dl (m9 + 1) σ)) hx hb hr hlocks hP hS dX2_margin_27 (congrArg (fun y => li - y) (Eq.symm (by rw [hc9]; exact if_pos rfl)))
  · rw [hc9] at hl ⊢
    refine kCallW_i (W1 := wC cI cZ cO x a t b ck Ho (sT σ) (sE σ) (sD σ) (sF σ) (sS σ) (sC σ) (sL σ) (sT (hRun gp gi am Lo Se Ef dl (m9 + 1) (hFail σ f))) (sE (hRun gp gi am Lo Se Ef dl (m9 + 1) (hFail σ f))) (sD (hRun gp gi am Lo Se Ef dl (m9 + 1) (hFail σ f))) (sF (hRun gp gi am Lo Se Ef dl (m9 + 1) (hFail σ f))) (sS (hRun gp gi am Lo Se Ef dl (m9 + 1) (hFail σ f))) (sC (hRun gp gi am Lo Se Ef dl (m9 + 1) (hFail σ f))) (sL (hRun gp gi am Lo Se Ef dl (m9 + 1) (hFail σ f))) Lo Se Ef gp gi am li dl) hD hS hA rfl (va_runV (As := [.int (nI z0), .int (nI (m9 + 1)), .int (nI f)]) (rest := [.int li]) ⟨hx, hb, hml, hown, hts⟩ (c_X2_greatestTemperature_f l D cI cZ cO cJ x a t b ck Ho σ (sT u) (sE u) (sD u) (sF u) (sS u) (sC u) (sL u) Lo Se Ef gp gi am li dl z0 m9 f H.size (by omega) (by omega) (by omega) h8 h9 hFb) (cwV (rm := rmX2_greatestTemperature) 3 hts gX2_margin_X2_greatestTemperature rfl rfl rfl (by decide +kernel) ⟨Nat.le_of_ble_eq_true rfl, Nat.le_of_ble_eq_true rfl⟩) (kPreVW hK hN hP hD (va_recv hK hP (ci := 2) (q0 := 0) rfl rfl)) rfl rfl hl.1 rfl (lv_room (Nat.le_of_ble_eq_true rfl)) dX2_margin_23 ⟨Nat.zero_le _, Nat.zero_le _⟩) (fun H locs hP hD hS => ?_)
    refine lv_isub hx hb dX2_margin_26 ?_
    subst hQ9
    subst hA9
    exact kRetE_i (S := HS) (W1 := fun u : HS => wC cI cZ cO x a t b ck Ho (sT σ) (sE σ) (sD σ) (sF σ) (sS σ) (sC σ) (sL σ) (sT u) (sE u) (sD u) (sF u) (sS u) (sC u) (sL u) Lo Se Ef gp gi am li dl) (sT (hRun gp gi am Lo Se Ef dl (m9 + 1) (hFail σ f)), sE (hRun gp gi am Lo Se Ef dl (m9 + 1) (hFail σ f)), sD (hRun gp gi am Lo Se Ef dl (m9 + 1) (hFail σ f)), sF (hRun gp gi am Lo Se Ef dl (m9 + 1) (hFail σ f)), sS (hRun gp gi am Lo Se Ef dl (m9 + 1) (hFail σ f)), sC (hRun gp gi am Lo Se Ef dl (m9 + 1) (hFail σ f)), sL (hRun gp gi am Lo Se Ef dl (m9 + 1) (hFail σ f))) hx hb hr hlocks hP hS dX2_margin_27 (congrArg (fun y => li - y) (Eq.symm (by rw [hc9]; exact gAny_f (by omega))))

