abbrev rmX3_copies : Room := { frames := 0, cells := 0, slots := 0, locals := 0 }
set_option maxHeartbeats 4000000 in
set_option maxRecDepth 100000 in
/-- copies -/
theorem c_X3_copies (l : Launch) (D : va_G) (cI cZ cO cJ : ClassId) (y : Nat → Nat) (Lo Se Em : Nat → Int32) (gp gi am li : Int32) (dl : Nat) (μ : MS) (Ho : Nat → Int32) (th : Int32) (Ef : Nat → Nat → Int32) (σ : HS) (sz : Nat) (hFb : ∀ f : Nat, f < 8 → rF μ f = nI 0 ∨ rF μ f = nI 1) : kMv l yX3_copies wsX3_copies rmX3_copies D (kT cI cZ cO cJ) [.ref (y 0)] (wM cI cZ y Lo Se Em gp gi am li dl (rK μ) (rT μ) (rE μ) (rD μ) (rF μ) (rS μ) (rC μ) Ho th) (wM cI cZ y Lo Se Em gp gi am li dl (rK (cpM μ)) (rT (cpM μ)) (rE (cpM μ)) (rD (cpM μ)) (rF (cpM μ)) (rS (cpM μ)) (rC (cpM μ)) Ho th) sz := by
  refine kEnter (cc := cX3_copies) (maxL := 2) (ret := none) (by decide +kernel) rfl (Nat.le_of_ble_eq_true rfl) ?_
  intro p e s m below meth c args hx hb hr hml hts hown hlocks hin hK hN A hA9 Q hQ9 hP hD hsz hS hA ls hl
  have hl : lv_has ls 2 [(0, .ref (y 0))] := hl
  have hi_X3 : ∀ w ∈ u_ws RX3 TX3 17, w ∈ wsX3_copies := by decide +kernel
  obtain ⟨H, hH9⟩ : ∃ H, H = s.heap := ⟨_, rfl⟩
  rw [← hH9] at hP ⊢
  have hS : va_S A s.heap H [] := by rw [hH9]; exact va_S.rf
  refine lv_aload_n hx hb dX3_copies_0 rfl (lv_at hl 0 rfl) ?_
  refine va_get (D := D) (ci := 3) (v := .ref (y 4)) (C := RX3) (T := TX3) (N := 17) hx hb hts hi_X3 hown hK hP 0 rfl rfl 8 (by decide) (hts (.fieldLink RX3 35 "ColdaisleModel" "clocks" "[I") (by decide +kernel)) (fun _ h9 => h9) rfl dX3_copies_1 ?_
  refine lv_iconst (v := nI 1) hx hb dX3_copies_4 (by decide +kernel) ?_
  refine lv_aload_n hx hb dX3_copies_5 rfl (lv_at hl 0 rfl) ?_
  refine va_get (D := D) (ci := 3) (v := .ref (y 4)) (C := RX3) (T := TX3) (N := 17) hx hb hts hi_X3 hown hK hP 0 rfl rfl 8 (by decide) (hts (.fieldLink RX3 35 "ColdaisleModel" "clocks" "[I") (by decide +kernel)) (fun _ h9 => h9) rfl dX3_copies_6 ?_
  refine lv_iconst (v := nI 0) hx hb dX3_copies_9 (by decide +kernel) ?_
  refine k_iald hx hb hK hP 4 0 rfl rfl (i := 0) (by decide) (by decide) dX3_copies_10 ?_
  refine k_as rfl ?_
  refine k_iast hx hb hK hP hD hS 4 0 rfl rfl (i := 1) (x := nI (rK μ 0)) (by decide) (by decide) dX3_copies_11 (fun H locs hP hD hS => ?_)
  rw [ck_set] at hP hD
  have hP : va_P D vwCl (wM cI cZ y Lo Se Em gp gi am li dl (va_up (rK μ) 1 (rK μ 0)) (rT μ) (rE μ) (rD μ) (rF μ) (rS μ) (rC μ) Ho th) H := hP
  have hD : va_D A (wM cI cZ y Lo Se Em gp gi am li dl (va_up (rK μ) 1 (rK μ 0)) (rT μ) (rE μ) (rD μ) (rF μ) (rS μ) (rC μ) Ho th) := hD
  refine lv_iconst (v := nI 0) hx hb dX3_copies_12 (by decide +kernel) ?_
  refine lv_istore_n (lv' := [(1, .int (nI 0)), (0, .ref (y 0))]) hx hb dX3_copies_13 rfl hl (by decide) rfl (fun ls hl => ?_)
  have l1 : ∀ (n z : Nat), z + n = 6 → ∀ (H : Heap) (locs : List Loc), va_P D vwCl (wM cI cZ y Lo Se Em gp gi am li dl (va_up (rK μ) 1 (rK μ 0)) (mFo 6 z (rT μ) (rT μ)) (mFo 6 z (rE μ) (rE μ)) (rD μ) (rF μ) (rS μ) (rC μ) Ho th) H → va_D A (wM cI cZ y Lo Se Em gp gi am li dl (va_up (rK μ) 1 (rK μ 0)) (mFo 6 z (rT μ) (rT μ)) (mFo 6 z (rE μ) (rE μ)) (rD μ) (rF μ) (rS μ) (rC μ) Ho th) → va_S A s.heap H locs → ∀ ls : Array Slot, lv_has ls 2 [(0, .ref (y 0)), (1, .int (nI z))] → W p l e rmX3_copies s m args below meth c H locs 0 0 Q (F0 m 14 ls []) := by
    intro n
    induction n with
    | zero =>
      intro z hz H locs hP hD hS ls hl
      have hz9 : z = 6 := by omega
      subst hz9
      refine lv_iload_n hx hb dX3_copies_14 rfl (lv_at hl 1 rfl) ?_
      refine lv_bipush (v := nI 6) hx hb dX3_copies_15 (by decide +kernel) ?_
      refine lv_icmp_ge (tgt := 56) hx hb dX3_copies_17 (by decide) (fun _ => ?_) (fun c9 => absurd (by decide +kernel) c9)
      refine lv_iconst (v := nI 0) hx hb dX3_copies_56 (by decide +kernel) ?_
      refine lv_istore_n (lv' := [(1, .int (nI 0)), (0, .ref (y 0))]) hx hb dX3_copies_57 rfl hl (by decide) rfl (fun ls hl => ?_)
      have l2 : ∀ (n z : Nat), z + n = 8 → ∀ (H : Heap) (locs : List Loc), va_P D vwCl (wM cI cZ y Lo Se Em gp gi am li dl (va_up (rK μ) 1 (rK μ 0)) (mFo 6 6 (rT μ) (rT μ)) (mFo 6 6 (rE μ) (rE μ)) (rD μ) (mFo 8 z (rF μ) (rF μ)) (rS μ) (rC μ) Ho th) H → va_D A (wM cI cZ y Lo Se Em gp gi am li dl (va_up (rK μ) 1 (rK μ 0)) (mFo 6 6 (rT μ) (rT μ)) (mFo 6 6 (rE μ) (rE μ)) (rD μ) (mFo 8 z (rF μ) (rF μ)) (rS μ) (rC μ) Ho th) → va_S A s.heap H locs → ∀ ls : Array Slot, lv_has ls 2 [(0, .ref (y 0)), (1, .int (nI z))] → W p l e rmX3_copies s m args below meth c H locs 0 0 Q (F0 m 58 ls []) := by
        intro n
        induction n with
        | zero =>
          intro z hz H locs hP hD hS ls hl
          have hz9 : z = 8 := by omega
          subst hz9
          refine lv_iload_n hx hb dX3_copies_58 rfl (lv_at hl 1 rfl) ?_
          refine lv_bipush (v := nI 8) hx hb dX3_copies_59 (by decide +kernel) ?_
          refine lv_icmp_ge (tgt := 85) hx hb dX3_copies_61 (by decide) (fun _ => ?_) (fun c9 => absurd (by decide +kernel) c9)
          refine lv_iconst (v := nI 0) hx hb dX3_copies_85 (by decide +kernel) ?_
          refine lv_istore_n (lv' := [(1, .int (nI 0)), (0, .ref (y 0))]) hx hb dX3_copies_86 rfl hl (by decide) rfl (fun ls hl => ?_)
          have l3 : ∀ (n z : Nat), z + n = 72 → ∀ (H : Heap) (locs : List Loc), va_P D vwCl (wM cI cZ y Lo Se Em gp gi am li dl (va_up (rK μ) 1 (rK μ 0)) (mFo 6 6 (rT μ) (rT μ)) (mFo 6 6 (rE μ) (rE μ)) (rD μ) (mFo 8 8 (rF μ) (rF μ)) (rS μ) (mFo 72 z (rC μ) (rC μ)) Ho th) H → va_D A (wM cI cZ y Lo Se Em gp gi am li dl (va_up (rK μ) 1 (rK μ 0)) (mFo 6 6 (rT μ) (rT μ)) (mFo 6 6 (rE μ) (rE μ)) (rD μ) (mFo 8 8 (rF μ) (rF μ)) (rS μ) (mFo 72 z (rC μ) (rC μ)) Ho th) → va_S A s.heap H locs → ∀ ls : Array Slot, lv_has ls 2 [(0, .ref (y 0)), (1, .int (nI z))] → W p l e rmX3_copies s m args below meth c H locs 0 0 Q (F0 m 87 ls []) := by
            intro n
            induction n with
            | zero =>
              intro z hz H locs hP hD hS ls hl
              have hz9 : z = 72 := by omega
              subst hz9
              refine lv_iload_n hx hb dX3_copies_87 rfl (lv_at hl 1 rfl) ?_
              refine lv_bipush (v := nI 72) hx hb dX3_copies_88 (by decide +kernel) ?_
              refine lv_icmp_ge (tgt := 114) hx hb dX3_copies_90 (by decide) (fun _ => ?_) (fun c9 => absurd (by decide +kernel) c9)
              subst hQ9
              subst hA9
              exact kRet_v hx hb hr hlocks hP hS dX3_copies_114
            | succ n ih =>
              intro z hz H locs hP hD hS ls hl
              have hzb : z < 72 := by omega
              refine lv_iload_n hx hb dX3_copies_87 rfl (lv_at hl 1 rfl) ?_
              refine lv_bipush (v := nI 72) hx hb dX3_copies_88 (by decide +kernel) ?_
              refine lv_icmp_ge (tgt := 114) hx hb dX3_copies_90 (by decide) (fun c9 => absurd c9 (nI_ge hzb (by decide))) (fun _ => ?_)
              refine lv_aload_n hx hb dX3_copies_93 rfl (lv_at hl 0 rfl) ?_
              refine va_get (D := D) (ci := 3) (v := .ref (y 10)) (C := RX3) (T := TX3) (N := 17) hx hb hts hi_X3 hown hK hP 0 rfl rfl 14 (by decide) (hts (.fieldLink RX3 54 "ColdaisleModel" "commands" "[I") (by decide +kernel)) (fun _ h9 => h9) rfl dX3_copies_94 ?_
              refine lv_bipush (v := nI 72) hx hb dX3_copies_97 (by decide +kernel) ?_
              refine lv_iload_n hx hb dX3_copies_99 rfl (lv_at hl 1 rfl) ?_
              refine lv_iadd hx hb dX3_copies_100 ?_
              refine k_as (nI_add _ _) ?_
              refine lv_aload_n hx hb dX3_copies_101 rfl (lv_at hl 0 rfl) ?_
              refine va_get (D := D) (ci := 3) (v := .ref (y 10)) (C := RX3) (T := TX3) (N := 17) hx hb hts hi_X3 hown hK hP 0 rfl rfl 14 (by decide) (hts (.fieldLink RX3 54 "ColdaisleModel" "commands" "[I") (by decide +kernel)) (fun _ h9 => h9) rfl dX3_copies_102 ?_
              refine lv_iload_n hx hb dX3_copies_105 rfl (lv_at hl 1 rfl) ?_
              refine k_iald hx hb hK hP 10 0 rfl rfl (i := z) (by omega) (by decide) dX3_copies_106 ?_
              refine k_as (mFo_out _ _ (by omega)) ?_
              refine k_iast hx hb hK hP hD hS 10 0 rfl rfl (i := 72 + z) (x := rC μ z) (by omega) (by decide) dX3_copies_107 (fun H locs hP hD hS => ?_)
              have hP : va_P D vwCl (wM cI cZ y Lo Se Em gp gi am li dl (va_up (rK μ) 1 (rK μ 0)) (mFo 6 6 (rT μ) (rT μ)) (mFo 6 6 (rE μ) (rE μ)) (rD μ) (mFo 8 8 (rF μ) (rF μ)) (rS μ) (upd (mFo 72 z (rC μ) (rC μ)) (72 + z) (rC μ z)) Ho th) H := hP
              have hD : va_D A (wM cI cZ y Lo Se Em gp gi am li dl (va_up (rK μ) 1 (rK μ 0)) (mFo 6 6 (rT μ) (rT μ)) (mFo 6 6 (rE μ) (rE μ)) (rD μ) (mFo 8 8 (rF μ) (rF μ)) (rS μ) (upd (mFo 72 z (rC μ) (rC μ)) (72 + z) (rC μ z)) Ho th) := hD
              have hP : va_P D vwCl (wM cI cZ y Lo Se Em gp gi am li dl (va_up (rK μ) 1 (rK μ 0)) (mFo 6 6 (rT μ) (rT μ)) (mFo 6 6 (rE μ) (rE μ)) (rD μ) (mFo 8 8 (rF μ) (rF μ)) (rS μ) (mFo 72 (z + 1) (rC μ) (rC μ)) Ho th) H := by rw [← mFo_up 72 z (rC μ) (rC μ)]; exact hP
              have hD : va_D A (wM cI cZ y Lo Se Em gp gi am li dl (va_up (rK μ) 1 (rK μ 0)) (mFo 6 6 (rT μ) (rT μ)) (mFo 6 6 (rE μ) (rE μ)) (rD μ) (mFo 8 8 (rF μ) (rF μ)) (rS μ) (mFo 72 (z + 1) (rC μ) (rC μ)) Ho th) := by rw [← mFo_up 72 z (rC μ) (rC μ)]; exact hD
              refine lv_iinc (v := nI (z + 1)) (lv' := [(1, .int (nI (z + 1))), (0, .ref (y 0))]) hx hb dX3_copies_108 hl (k := 1) rfl (k_inc _) (by decide) rfl (fun ls hl => ?_)
              refine lv_goto (tgt := 87) hx hb dX3_copies_111 (by decide) ?_
              exact ih (z + 1) (by omega) H locs hP hD hS ls (lv_sub hl [1, 0] rfl)
          exact l3 72 0 rfl H locs (by rw [mFo_0]; exact hP) (by rw [mFo_0]; exact hD) hS ls (lv_sub hl [1, 0] rfl)
        | succ n ih =>
          intro z hz H locs hP hD hS ls hl
          have hzb : z < 8 := by omega
          refine lv_iload_n hx hb dX3_copies_58 rfl (lv_at hl 1 rfl) ?_
          refine lv_bipush (v := nI 8) hx hb dX3_copies_59 (by decide +kernel) ?_
          refine lv_icmp_ge (tgt := 85) hx hb dX3_copies_61 (by decide) (fun c9 => absurd c9 (nI_ge hzb (by decide))) (fun _ => ?_)
          refine lv_aload_n hx hb dX3_copies_64 rfl (lv_at hl 0 rfl) ?_
          refine va_get (D := D) (ci := 3) (v := .ref (y 8)) (C := RX3) (T := TX3) (N := 17) hx hb hts hi_X3 hown hK hP 0 rfl rfl 12 (by decide) (hts (.fieldLink RX3 47 "ColdaisleModel" "hasFailed" "[Z") (by decide +kernel)) (fun _ h9 => h9) rfl dX3_copies_65 ?_
          refine lv_bipush (v := nI 8) hx hb dX3_copies_68 (by decide +kernel) ?_
          refine lv_iload_n hx hb dX3_copies_70 rfl (lv_at hl 1 rfl) ?_
          refine lv_iadd hx hb dX3_copies_71 ?_
          refine k_as (nI_add _ _) ?_
          refine lv_aload_n hx hb dX3_copies_72 rfl (lv_at hl 0 rfl) ?_
          refine va_get (D := D) (ci := 3) (v := .ref (y 8)) (C := RX3) (T := TX3) (N := 17) hx hb hts hi_X3 hown hK hP 0 rfl rfl 12 (by decide) (hts (.fieldLink RX3 47 "ColdaisleModel" "hasFailed" "[Z") (by decide +kernel)) (fun _ h9 => h9) rfl dX3_copies_73 ?_
          refine lv_iload_n hx hb dX3_copies_76 rfl (lv_at hl 1 rfl) ?_
          refine k_zald hx hb hK hP 8 1 rfl rfl (i := z) (by omega) (by decide) dX3_copies_77 ?_
          refine k_as (mFo_out _ _ (by omega)) ?_
          refine k_zast hx hb hK hP hD hS 8 1 rfl rfl (i := 8 + z) (x := rF μ z) (x' := rF μ z) (by omega) (by decide) (by rcases hFb z (by omega) with h9 | h9 <;> rw [h9] <;> decide +kernel) dX3_copies_78 (fun H locs hP hD hS => ?_)
          have hP : va_P D vwCl (wM cI cZ y Lo Se Em gp gi am li dl (va_up (rK μ) 1 (rK μ 0)) (mFo 6 6 (rT μ) (rT μ)) (mFo 6 6 (rE μ) (rE μ)) (rD μ) (upd (mFo 8 z (rF μ) (rF μ)) (8 + z) (rF μ z)) (rS μ) (rC μ) Ho th) H := hP
          have hD : va_D A (wM cI cZ y Lo Se Em gp gi am li dl (va_up (rK μ) 1 (rK μ 0)) (mFo 6 6 (rT μ) (rT μ)) (mFo 6 6 (rE μ) (rE μ)) (rD μ) (upd (mFo 8 z (rF μ) (rF μ)) (8 + z) (rF μ z)) (rS μ) (rC μ) Ho th) := hD
          have hP : va_P D vwCl (wM cI cZ y Lo Se Em gp gi am li dl (va_up (rK μ) 1 (rK μ 0)) (mFo 6 6 (rT μ) (rT μ)) (mFo 6 6 (rE μ) (rE μ)) (rD μ) (mFo 8 (z + 1) (rF μ) (rF μ)) (rS μ) (rC μ) Ho th) H := by rw [← mFo_up 8 z (rF μ) (rF μ)]; exact hP
          have hD : va_D A (wM cI cZ y Lo Se Em gp gi am li dl (va_up (rK μ) 1 (rK μ 0)) (mFo 6 6 (rT μ) (rT μ)) (mFo 6 6 (rE μ) (rE μ)) (rD μ) (mFo 8 (z + 1) (rF μ) (rF μ)) (rS μ) (rC μ) Ho th) := by rw [← mFo_up 8 z (rF μ) (rF μ)]; exact hD
          refine lv_iinc (v := nI (z + 1)) (lv' := [(1, .int (nI (z + 1))), (0, .ref (y 0))]) hx hb dX3_copies_79 hl (k := 1) rfl (k_inc _) (by decide) rfl (fun ls hl => ?_)
          refine lv_goto (tgt := 58) hx hb dX3_copies_82 (by decide) ?_
          exact ih (z + 1) (by omega) H locs hP hD hS ls (lv_sub hl [1, 0] rfl)
      exact l2 8 0 rfl H locs (by rw [mFo_0]; exact hP) (by rw [mFo_0]; exact hD) hS ls (lv_sub hl [1, 0] rfl)
    | succ n ih =>
      intro z hz H locs hP hD hS ls hl
      have hzb : z < 6 := by omega
      refine lv_iload_n hx hb dX3_copies_14 rfl (lv_at hl 1 rfl) ?_
      refine lv_bipush (v := nI 6) hx hb dX3_copies_15 (by decide +kernel) ?_
      refine lv_icmp_ge (tgt := 56) hx hb dX3_copies_17 (by decide) (fun c9 => absurd c9 (nI_ge hzb (by decide))) (fun _ => ?_)
      refine lv_aload_n hx hb dX3_copies_20 rfl (lv_at hl 0 rfl) ?_
      refine va_get (D := D) (ci := 3) (v := .ref (y 5)) (C := RX3) (T := TX3) (N := 17) hx hb hts hi_X3 hown hK hP 0 rfl rfl 9 (by decide) (hts (.fieldLink RX3 38 "ColdaisleModel" "temperatures" "[I") (by decide +kernel)) (fun _ h9 => h9) rfl dX3_copies_21 ?_
      refine lv_bipush (v := nI 6) hx hb dX3_copies_24 (by decide +kernel) ?_
      refine lv_iload_n hx hb dX3_copies_26 rfl (lv_at hl 1 rfl) ?_
      refine lv_iadd hx hb dX3_copies_27 ?_
      refine k_as (nI_add _ _) ?_
      refine lv_aload_n hx hb dX3_copies_28 rfl (lv_at hl 0 rfl) ?_
      refine va_get (D := D) (ci := 3) (v := .ref (y 5)) (C := RX3) (T := TX3) (N := 17) hx hb hts hi_X3 hown hK hP 0 rfl rfl 9 (by decide) (hts (.fieldLink RX3 38 "ColdaisleModel" "temperatures" "[I") (by decide +kernel)) (fun _ h9 => h9) rfl dX3_copies_29 ?_
      refine lv_iload_n hx hb dX3_copies_32 rfl (lv_at hl 1 rfl) ?_
      refine k_iald hx hb hK hP 5 0 rfl rfl (i := z) (by omega) (by decide) dX3_copies_33 ?_
      refine k_as (mFo_out _ _ (by omega)) ?_
      refine k_iast hx hb hK hP hD hS 5 0 rfl rfl (i := 6 + z) (x := rT μ z) (by omega) (by decide) dX3_copies_34 (fun H locs hP hD hS => ?_)
      have hP : va_P D vwCl (wM cI cZ y Lo Se Em gp gi am li dl (va_up (rK μ) 1 (rK μ 0)) (upd (mFo 6 z (rT μ) (rT μ)) (6 + z) (rT μ z)) (mFo 6 z (rE μ) (rE μ)) (rD μ) (rF μ) (rS μ) (rC μ) Ho th) H := hP
      have hD : va_D A (wM cI cZ y Lo Se Em gp gi am li dl (va_up (rK μ) 1 (rK μ 0)) (upd (mFo 6 z (rT μ) (rT μ)) (6 + z) (rT μ z)) (mFo 6 z (rE μ) (rE μ)) (rD μ) (rF μ) (rS μ) (rC μ) Ho th) := hD
      refine lv_aload_n hx hb dX3_copies_35 rfl (lv_at hl 0 rfl) ?_
      refine va_get (D := D) (ci := 3) (v := .ref (y 6)) (C := RX3) (T := TX3) (N := 17) hx hb hts hi_X3 hown hK hP 0 rfl rfl 10 (by decide) (hts (.fieldLink RX3 41 "ColdaisleModel" "sums" "[I") (by decide +kernel)) (fun _ h9 => h9) rfl dX3_copies_36 ?_
      refine lv_bipush (v := nI 6) hx hb dX3_copies_39 (by decide +kernel) ?_
      refine lv_iload_n hx hb dX3_copies_41 rfl (lv_at hl 1 rfl) ?_
      refine lv_iadd hx hb dX3_copies_42 ?_
      refine k_as (nI_add _ _) ?_
      refine lv_aload_n hx hb dX3_copies_43 rfl (lv_at hl 0 rfl) ?_
      refine va_get (D := D) (ci := 3) (v := .ref (y 6)) (C := RX3) (T := TX3) (N := 17) hx hb hts hi_X3 hown hK hP 0 rfl rfl 10 (by decide) (hts (.fieldLink RX3 41 "ColdaisleModel" "sums" "[I") (by decide +kernel)) (fun _ h9 => h9) rfl dX3_copies_44 ?_
      refine lv_iload_n hx hb dX3_copies_47 rfl (lv_at hl 1 rfl) ?_
      refine k_iald hx hb hK hP 6 0 rfl rfl (i := z) (by omega) (by decide) dX3_copies_48 ?_
      refine k_as (mFo_out _ _ (by omega)) ?_
      refine k_iast hx hb hK hP hD hS 6 0 rfl rfl (i := 6 + z) (x := rE μ z) (by omega) (by decide) dX3_copies_49 (fun H locs hP hD hS => ?_)
      have hP : va_P D vwCl (wM cI cZ y Lo Se Em gp gi am li dl (va_up (rK μ) 1 (rK μ 0)) (upd (mFo 6 z (rT μ) (rT μ)) (6 + z) (rT μ z)) (upd (mFo 6 z (rE μ) (rE μ)) (6 + z) (rE μ z)) (rD μ) (rF μ) (rS μ) (rC μ) Ho th) H := hP
      have hD : va_D A (wM cI cZ y Lo Se Em gp gi am li dl (va_up (rK μ) 1 (rK μ 0)) (upd (mFo 6 z (rT μ) (rT μ)) (6 + z) (rT μ z)) (upd (mFo 6 z (rE μ) (rE μ)) (6 + z) (rE μ z)) (rD μ) (rF μ) (rS μ) (rC μ) Ho th) := hD
      have hP : va_P D vwCl (wM cI cZ y Lo Se Em gp gi am li dl (va_up (rK μ) 1 (rK μ 0)) (mFo 6 (z + 1) (rT μ) (rT μ)) (mFo 6 (z + 1) (rE μ) (rE μ)) (rD μ) (rF μ) (rS μ) (rC μ) Ho th) H := by rw [← mFo_up 6 z (rT μ) (rT μ), ← mFo_up 6 z (rE μ) (rE μ)]; exact hP
      have hD : va_D A (wM cI cZ y Lo Se Em gp gi am li dl (va_up (rK μ) 1 (rK μ 0)) (mFo 6 (z + 1) (rT μ) (rT μ)) (mFo 6 (z + 1) (rE μ) (rE μ)) (rD μ) (rF μ) (rS μ) (rC μ) Ho th) := by rw [← mFo_up 6 z (rT μ) (rT μ), ← mFo_up 6 z (rE μ) (rE μ)]; exact hD
      refine lv_iinc (v := nI (z + 1)) (lv' := [(1, .int (nI (z + 1))), (0, .ref (y 0))]) hx hb dX3_copies_50 hl (k := 1) rfl (k_inc _) (by decide) rfl (fun ls hl => ?_)
      refine lv_goto (tgt := 14) hx hb dX3_copies_53 (by decide) ?_
      exact ih (z + 1) (by omega) H locs hP hD hS ls (lv_sub hl [1, 0] rfl)
  exact l1 6 0 rfl H locs (by rw [mFo_0, mFo_0]; exact hP) (by rw [mFo_0, mFo_0]; exact hD) hS ls (lv_sub hl [1, 0] rfl)

abbrev rmX3_greatest : Room := { frames := 3, cells := 0, slots := 0, locals := 72 }
set_option maxHeartbeats 4000000 in
set_option maxRecDepth 100000 in
/-- greatest -/
theorem c_X3_greatest_n (l : Launch) (D : va_G) (cI cZ cO cJ : ClassId) (y : Nat → Nat) (Lo Se Em : Nat → Int32) (gp gi am li : Int32) (dl : Nat) (μ : MS) (Ho : Nat → Int32) (th : Int32) (Ef : Nat → Nat → Int32) (σ : HS) (z0 m9 : Nat) (sz : Nat) (hSk : SOK Lo Se Em Ef gp gi am dl) (hR : RelX 0 σ μ) (hk : rK μ 0 ≤ 100000) (hz0 : z0 < 6) (hm : m9 < 60) : kMP l yX3_greatest wsX3_greatest rmX3_greatest D (kT cI cZ cO cJ) [.ref (y 0), .int (nI z0), .int (nI (m9 + 1)), .int (-1)] (wM cI cZ y Lo Se Em gp gi am li dl (rK μ) (rT μ) (rE μ) (rD μ) (rF μ) (rS μ) (rC μ) Ho th) (fun u : MS => wM cI cZ y Lo Se Em gp gi am li dl (rK u) (rT u) (rE u) (rD u) (rF u) (rS u) (rC u) Ho th) (fun u : MS => sameR μ u) sz (gOf gp gi am Lo Se Ef dl σ z0 m9) := by
  refine kEnter (cc := cX3_greatest) (maxL := 6) (ret := some .int) (by decide +kernel) rfl (Nat.le_of_ble_eq_true rfl) ?_
  intro p e s m below meth c args hx hb hr hml hts hown hlocks hin hK hN A hA9 Q hQ9 hP hD hsz hS hA ls hl
  have hl : lv_has ls 6 [(0, .ref (y 0)), (1, .int (nI z0)), (2, .int (nI (m9 + 1))), (3, .int (-1))] := hl
  have hi_X3 : ∀ w ∈ u_ws RX3 TX3 17, w ∈ wsX3_greatest := by decide +kernel
  obtain ⟨H, hH9⟩ : ∃ H, H = s.heap := ⟨_, rfl⟩
  rw [← hH9] at hP ⊢
  have hS : va_S A s.heap H [] := by rw [hH9]; exact va_S.rf
  refine lv_aload_n hx hb dX3_greatest_0 rfl (lv_at hl 0 rfl) ?_
  refine kCallW_v (W1 := wM cI cZ y Lo Se Em gp gi am li dl (rK (cpM μ)) (rT (cpM μ)) (rE (cpM μ)) (rD (cpM μ)) (rF (cpM μ)) (rS (cpM μ)) (rC (cpM μ)) Ho th) hD hS hA rfl (va_runV (As := []) (rest := []) ⟨hx, hb, hml, hown, hts⟩ (c_X3_copies l D cI cZ cO cJ y Lo Se Em gp gi am li dl μ Ho th Ef σ H.size (rel0_b hR)) (cwV (rm := rmX3_copies) 0 hts gX3_greatest_X3_copies rfl rfl rfl (by decide +kernel) ⟨Nat.le_of_ble_eq_true rfl, Nat.le_of_ble_eq_true rfl⟩) (kPreVW hK hN hP hD (va_recv hK hP (ci := 3) (q0 := 0) rfl rfl)) rfl rfl hl.1 rfl (lv_room (Nat.le_of_ble_eq_true rfl)) dX3_greatest_1 ⟨Nat.zero_le _, Nat.zero_le _⟩) (fun H locs hP hD hS => ?_)
  have hP : va_P D vwCl (wM cI cZ y Lo Se Em gp gi am li dl (rK (cpM μ)) (rT (cpM μ)) (rE (cpM μ)) (rD (cpM μ)) (rF (cpM μ)) (rS (cpM μ)) (rC (cpM μ)) Ho th) H := hP
  have hD : va_D A (wM cI cZ y Lo Se Em gp gi am li dl (rK (cpM μ)) (rT (cpM μ)) (rE (cpM μ)) (rD (cpM μ)) (rF (cpM μ)) (rS (cpM μ)) (rC (cpM μ)) Ho th) := hD
  refine lv_iload_n hx hb dX3_greatest_4 rfl (lv_at hl 3 rfl) ?_
  refine lv_iconst (v := (-1)) hx hb dX3_greatest_5 (by decide +kernel) ?_
  refine lv_icmp_eq (tgt := 19) hx hb dX3_greatest_6 (by decide) (fun _ => ?_) (fun c9 => absurd rfl c9)
  have hR9 := cpM_rel hR
  have hs9 := cpM_same μ
  have hk9 : rK (cpM μ) 1 = rK μ 0 := show va_up (rK μ) 1 (rK μ 0) 1 = rK μ 0 from va_up_self _ _ _
  obtain ⟨ν0, hν0⟩ : ∃ ν0, ν0 = cpM μ := ⟨_, rfl⟩
  rw [← hν0] at hP hD hR9 hs9 hk9
  refine lv_aload_n hx hb dX3_greatest_19 rfl (lv_at hl 0 rfl) ?_
  refine lv_iconst (v := nI 1) hx hb dX3_greatest_20 (by decide +kernel) ?_
  refine kCallW_v (W1 := wM cI cZ y Lo Se Em gp gi am li dl (rK (qStep 1 gp gi am Lo Se Em dl ν0)) (rT (qStep 1 gp gi am Lo Se Em dl ν0)) (rE (qStep 1 gp gi am Lo Se Em dl ν0)) (rD (qStep 1 gp gi am Lo Se Em dl ν0)) (rF (qStep 1 gp gi am Lo Se Em dl ν0)) (rS (qStep 1 gp gi am Lo Se Em dl ν0)) (rC (qStep 1 gp gi am Lo Se Em dl ν0)) Ho th) hD hS hA rfl (va_runV (As := [.int (nI 1)]) (rest := []) ⟨hx, hb, hml, hown, hts⟩ (c_X3_minute l D cI cZ cO cJ y Lo Se Em gp gi am li dl (rK ν0) (rT ν0) (rE ν0) (rD ν0) (rF ν0) (rS ν0) (rC ν0) Ho th 1 H.size (by decide) (by omega) hSk.2.2.2.2.2.2.1) (cwV (rm := rmX3_minute) 1 hts gX3_greatest_X3_minute rfl rfl rfl (by decide +kernel) ⟨Nat.le_of_ble_eq_true rfl, Nat.le_of_ble_eq_true rfl⟩) (kPreVW hK hN hP hD (va_recv hK hP (ci := 3) (q0 := 0) rfl rfl)) rfl rfl hl.1 rfl (lv_room (Nat.le_of_ble_eq_true rfl)) dX3_greatest_21 ⟨Nat.zero_le _, Nat.zero_le _⟩) (fun H locs hP hD hS => ?_)
  have hP : va_P D vwCl (wM cI cZ y Lo Se Em gp gi am li dl (rK (qStep 1 gp gi am Lo Se Em dl ν0)) (rT (qStep 1 gp gi am Lo Se Em dl ν0)) (rE (qStep 1 gp gi am Lo Se Em dl ν0)) (rD (qStep 1 gp gi am Lo Se Em dl ν0)) (rF (qStep 1 gp gi am Lo Se Em dl ν0)) (rS (qStep 1 gp gi am Lo Se Em dl ν0)) (rC (qStep 1 gp gi am Lo Se Em dl ν0)) Ho th) H := hP
  have hD : va_D A (wM cI cZ y Lo Se Em gp gi am li dl (rK (qStep 1 gp gi am Lo Se Em dl ν0)) (rT (qStep 1 gp gi am Lo Se Em dl ν0)) (rE (qStep 1 gp gi am Lo Se Em dl ν0)) (rD (qStep 1 gp gi am Lo Se Em dl ν0)) (rF (qStep 1 gp gi am Lo Se Em dl ν0)) (rS (qStep 1 gp gi am Lo Se Em dl ν0)) (rC (qStep 1 gp gi am Lo Se Em dl ν0)) Ho th) := hD
  have hR8 := rel_step hSk hR9
  have hs8 := sameR_tr hs9 (qStep_same gp gi am Lo Se Em dl ν0)
  have hk8 := (qStep_K 1 gp gi am Lo Se Em dl ν0).trans (congrArg (· + 1) hk9)
  obtain ⟨ρ, hρ⟩ : ∃ ρ, ρ = qStep 1 gp gi am Lo Se Em dl ν0 := ⟨_, rfl⟩
  rw [← hρ] at hP hD hR8 hs8 hk8
  have hv : rT ρ (6 + z0) = sT (hRun gp gi am Lo Se Ef dl 1 σ) z0 := by have h1 := hR8.1.1 z0 hz0; rwa [show 6 * 1 + z0 = 6 + z0 from by omega] at h1
  refine lv_aload_n hx hb dX3_greatest_24 rfl (lv_at hl 0 rfl) ?_
  refine va_get (D := D) (ci := 3) (v := .ref (y 5)) (C := RX3) (T := TX3) (N := 17) hx hb hts hi_X3 hown hK hP 0 rfl rfl 9 (by decide) (hts (.fieldLink RX3 38 "ColdaisleModel" "temperatures" "[I") (by decide +kernel)) (fun _ h9 => h9) rfl dX3_greatest_25 ?_
  refine lv_bipush (v := nI 6) hx hb dX3_greatest_28 (by decide +kernel) ?_
  refine lv_iload_n hx hb dX3_greatest_30 rfl (lv_at hl 1 rfl) ?_
  refine lv_iadd hx hb dX3_greatest_31 ?_
  refine k_as (nI_add _ _) ?_
  refine k_iald hx hb hK hP 5 0 rfl rfl (i := 6 + z0) (by omega) (by decide) dX3_greatest_32 ?_
  refine k_as hv ?_
  refine lv_istore (lv' := [(4, .int (gTop (fun k => sT (hRun gp gi am Lo Se Ef dl (k + 1) σ) z0) 0)), (0, .ref (y 0)), (1, .int (nI z0)), (2, .int (nI (m9 + 1))), (3, .int (-1))]) hx hb dX3_greatest_33 hl (by decide) rfl (fun ls hl => ?_)
  refine lv_iconst (v := nI 1) hx hb dX3_greatest_35 (by decide +kernel) ?_
  refine lv_istore (lv' := [(5, .int (nI 1)), (4, .int (gTop (fun k => sT (hRun gp gi am Lo Se Ef dl (k + 1) σ) z0) 0)), (0, .ref (y 0)), (1, .int (nI z0)), (2, .int (nI (m9 + 1))), (3, .int (-1))]) hx hb dX3_greatest_36 hl (by decide) rfl (fun ls hl => ?_)
  have lp : ∀ (n z : Nat), z + n = m9 → ∀ (ν : MS), RelX 1 (hRun gp gi am Lo Se Ef dl (z + 1) σ) ν → sameR μ ν → rK ν 1 = rK μ 0 + (z + 1) → ∀ (H : Heap) (locs : List Loc), va_P D vwCl (wM cI cZ y Lo Se Em gp gi am li dl (rK ν) (rT ν) (rE ν) (rD ν) (rF ν) (rS ν) (rC ν) Ho th) H → va_D A (wM cI cZ y Lo Se Em gp gi am li dl (rK ν) (rT ν) (rE ν) (rD ν) (rF ν) (rS ν) (rC ν) Ho th) → va_S A s.heap H locs → ∀ ls : Array Slot, lv_has ls 6 [(0, .ref (y 0)), (1, .int (nI z0)), (2, .int (nI (m9 + 1))), (3, .int (-1)), (4, .int (gTop (fun k => sT (hRun gp gi am Lo Se Ef dl (k + 1) σ) z0) z)), (5, .int (nI (z + 1)))] → W p l e rmX3_greatest s m args below meth c H locs 0 0 Q (F0 m 38 ls []) := by
    intro n
    induction n with
    | zero =>
      intro z hz ν hR9 hs9 hk9 H locs hP hD hS ls hl
      have hz9 : m9 = z := by omega
      subst hz9
      refine lv_iload hx hb dX3_greatest_38 (lv_at hl 5 rfl) ?_
      refine lv_iload_n hx hb dX3_greatest_40 rfl (lv_at hl 2 rfl) ?_
      refine lv_icmp_ge (tgt := 85) hx hb dX3_greatest_41 (by decide) (fun _ => ?_) (fun c9 => absurd (nI_le (Nat.le_refl _) (by omega)) c9)
      refine lv_iload hx hb dX3_greatest_85 (lv_at hl 4 rfl) ?_
      subst hQ9
      subst hA9
      exact kRetP_i (S := MS) (W1 := fun u : MS => wM cI cZ y Lo Se Em gp gi am li dl (rK u) (rT u) (rE u) (rD u) (rF u) (rS u) (rC u) Ho th) (P := fun u : MS => sameR μ u) (ν) (hs9) hx hb hr hlocks hP hS dX3_greatest_87 rfl
    | succ n ih =>
      intro z hz ν hR9 hs9 hk9 H locs hP hD hS ls hl
      have hzb : z < m9 := by omega
      refine lv_iload hx hb dX3_greatest_38 (lv_at hl 5 rfl) ?_
      refine lv_iload_n hx hb dX3_greatest_40 rfl (lv_at hl 2 rfl) ?_
      refine lv_icmp_ge (tgt := 85) hx hb dX3_greatest_41 (by decide) (fun c9 => absurd c9 (nI_ge (by omega) (by omega))) (fun _ => ?_)
      refine lv_aload_n hx hb dX3_greatest_44 rfl (lv_at hl 0 rfl) ?_
      refine lv_iconst (v := nI 1) hx hb dX3_greatest_45 (by decide +kernel) ?_
      refine kCallW_v (W1 := wM cI cZ y Lo Se Em gp gi am li dl (rK (qStep 1 gp gi am Lo Se Em dl ν)) (rT (qStep 1 gp gi am Lo Se Em dl ν)) (rE (qStep 1 gp gi am Lo Se Em dl ν)) (rD (qStep 1 gp gi am Lo Se Em dl ν)) (rF (qStep 1 gp gi am Lo Se Em dl ν)) (rS (qStep 1 gp gi am Lo Se Em dl ν)) (rC (qStep 1 gp gi am Lo Se Em dl ν)) Ho th) hD hS hA rfl (va_runV (As := [.int (nI 1)]) (rest := []) ⟨hx, hb, hml, hown, hts⟩ (c_X3_minute l D cI cZ cO cJ y Lo Se Em gp gi am li dl (rK ν) (rT ν) (rE ν) (rD ν) (rF ν) (rS ν) (rC ν) Ho th 1 H.size (by decide) (by omega) hSk.2.2.2.2.2.2.1) (cwV (rm := rmX3_minute) 1 hts gX3_greatest_X3_minute rfl rfl rfl (by decide +kernel) ⟨Nat.le_of_ble_eq_true rfl, Nat.le_of_ble_eq_true rfl⟩) (kPreVW hK hN hP hD (va_recv hK hP (ci := 3) (q0 := 0) rfl rfl)) rfl rfl hl.1 rfl (lv_room (Nat.le_of_ble_eq_true rfl)) dX3_greatest_46 ⟨Nat.zero_le _, Nat.zero_le _⟩) (fun H locs hP hD hS => ?_)
      have hP : va_P D vwCl (wM cI cZ y Lo Se Em gp gi am li dl (rK (qStep 1 gp gi am Lo Se Em dl ν)) (rT (qStep 1 gp gi am Lo Se Em dl ν)) (rE (qStep 1 gp gi am Lo Se Em dl ν)) (rD (qStep 1 gp gi am Lo Se Em dl ν)) (rF (qStep 1 gp gi am Lo Se Em dl ν)) (rS (qStep 1 gp gi am Lo Se Em dl ν)) (rC (qStep 1 gp gi am Lo Se Em dl ν)) Ho th) H := hP
      have hD : va_D A (wM cI cZ y Lo Se Em gp gi am li dl (rK (qStep 1 gp gi am Lo Se Em dl ν)) (rT (qStep 1 gp gi am Lo Se Em dl ν)) (rE (qStep 1 gp gi am Lo Se Em dl ν)) (rD (qStep 1 gp gi am Lo Se Em dl ν)) (rF (qStep 1 gp gi am Lo Se Em dl ν)) (rS (qStep 1 gp gi am Lo Se Em dl ν)) (rC (qStep 1 gp gi am Lo Se Em dl ν)) Ho th) := hD
      have hR8 := rel_step hSk hR9.1
      have hs8 := sameR_tr hs9 (qStep_same gp gi am Lo Se Em dl ν)
      have hk8 := (qStep_K 1 gp gi am Lo Se Em dl ν).trans (congrArg (· + 1) hk9)
      obtain ⟨ρ, hρ⟩ : ∃ ρ, ρ = qStep 1 gp gi am Lo Se Em dl ν := ⟨_, rfl⟩
      rw [← hρ] at hP hD hR8 hs8 hk8
      have hv : rT ρ (6 + z0) = sT (hRun gp gi am Lo Se Ef dl (z + 1 + 1) σ) z0 := by have h1 := hR8.1.1 z0 hz0; rwa [show 6 * 1 + z0 = 6 + z0 from by omega] at h1
      refine lv_aload_n hx hb dX3_greatest_49 rfl (lv_at hl 0 rfl) ?_
      refine va_get (D := D) (ci := 3) (v := .ref (y 5)) (C := RX3) (T := TX3) (N := 17) hx hb hts hi_X3 hown hK hP 0 rfl rfl 9 (by decide) (hts (.fieldLink RX3 38 "ColdaisleModel" "temperatures" "[I") (by decide +kernel)) (fun _ h9 => h9) rfl dX3_greatest_50 ?_
      refine lv_bipush (v := nI 6) hx hb dX3_greatest_53 (by decide +kernel) ?_
      refine lv_iload_n hx hb dX3_greatest_55 rfl (lv_at hl 1 rfl) ?_
      refine lv_iadd hx hb dX3_greatest_56 ?_
      refine k_as (nI_add _ _) ?_
      refine k_iald hx hb hK hP 5 0 rfl rfl (i := 6 + z0) (by omega) (by decide) dX3_greatest_57 ?_
      refine k_as hv ?_
      refine lv_iload hx hb dX3_greatest_58 (lv_at hl 4 rfl) ?_
      refine lv_icmp_le (tgt := 75) hx hb dX3_greatest_60 (by decide) (fun c1 => ?_) (fun c1 => ?_)
      · refine lv_iload hx hb dX3_greatest_75 (lv_at hl 4 rfl) ?_
        refine lv_istore (lv' := [(4, .int (gTop (fun k => sT (hRun gp gi am Lo Se Ef dl (k + 1) σ) z0) z)), (0, .ref (y 0)), (1, .int (nI z0)), (2, .int (nI (m9 + 1))), (3, .int (-1)), (5, .int (nI (z + 1)))]) hx hb dX3_greatest_77 hl (by decide) rfl (fun ls hl => ?_)
        refine lv_iinc (v := nI (z + 1 + 1)) (lv' := [(5, .int (nI (z + 1 + 1))), (4, .int (gTop (fun k => sT (hRun gp gi am Lo Se Ef dl (k + 1) σ) z0) z)), (0, .ref (y 0)), (1, .int (nI z0)), (2, .int (nI (m9 + 1))), (3, .int (-1))]) hx hb dX3_greatest_79 hl (k := 5) rfl (k_inc _) (by decide) rfl (fun ls hl => ?_)
        refine lv_goto (tgt := 38) hx hb dX3_greatest_82 (by decide) ?_
        exact ih (z + 1) (by omega) ρ hR8 hs8 (by omega) H locs hP hD hS ls (by rw [show gTop (fun k => sT (hRun gp gi am Lo Se Ef dl (k + 1) σ) z0) (z + 1) = _ from mMax_l c1]; exact (lv_sub hl [2, 3, 4, 5, 1, 0] rfl))
      · refine lv_aload_n hx hb dX3_greatest_63 rfl (lv_at hl 0 rfl) ?_
        refine va_get (D := D) (ci := 3) (v := .ref (y 5)) (C := RX3) (T := TX3) (N := 17) hx hb hts hi_X3 hown hK hP 0 rfl rfl 9 (by decide) (hts (.fieldLink RX3 38 "ColdaisleModel" "temperatures" "[I") (by decide +kernel)) (fun _ h9 => h9) rfl dX3_greatest_64 ?_
        refine lv_bipush (v := nI 6) hx hb dX3_greatest_67 (by decide +kernel) ?_
        refine lv_iload_n hx hb dX3_greatest_69 rfl (lv_at hl 1 rfl) ?_
        refine lv_iadd hx hb dX3_greatest_70 ?_
        refine k_as (nI_add _ _) ?_
        refine k_iald hx hb hK hP 5 0 rfl rfl (i := 6 + z0) (by omega) (by decide) dX3_greatest_71 ?_
        refine k_as hv ?_
        refine lv_goto (tgt := 77) hx hb dX3_greatest_72 (by decide) ?_
        refine lv_istore (lv' := [(4, .int (sT (hRun gp gi am Lo Se Ef dl (z + 1 + 1) σ) z0)), (0, .ref (y 0)), (1, .int (nI z0)), (2, .int (nI (m9 + 1))), (3, .int (-1)), (5, .int (nI (z + 1)))]) hx hb dX3_greatest_77 hl (by decide) rfl (fun ls hl => ?_)
        refine lv_iinc (v := nI (z + 1 + 1)) (lv' := [(5, .int (nI (z + 1 + 1))), (4, .int (sT (hRun gp gi am Lo Se Ef dl (z + 1 + 1) σ) z0)), (0, .ref (y 0)), (1, .int (nI z0)), (2, .int (nI (m9 + 1))), (3, .int (-1))]) hx hb dX3_greatest_79 hl (k := 5) rfl (k_inc _) (by decide) rfl (fun ls hl => ?_)
        refine lv_goto (tgt := 38) hx hb dX3_greatest_82 (by decide) ?_
        exact ih (z + 1) (by omega) ρ hR8 hs8 (by omega) H locs hP hD hS ls (by rw [show gTop (fun k => sT (hRun gp gi am Lo Se Ef dl (k + 1) σ) z0) (z + 1) = _ from mMax_r c1]; exact (lv_sub hl [2, 3, 4, 5, 1, 0] rfl))
  exact lp m9 0 (by omega) ρ hR8 hs8 hk8 H locs hP hD hS ls (lv_sub hl [2, 3, 4, 5, 1, 0] rfl)

set_option maxHeartbeats 4000000 in
set_option maxRecDepth 100000 in
/-- greatest -/
theorem c_X3_greatest_f (l : Launch) (D : va_G) (cI cZ cO cJ : ClassId) (y : Nat → Nat) (Lo Se Em : Nat → Int32) (gp gi am li : Int32) (dl : Nat) (μ : MS) (Ho : Nat → Int32) (th : Int32) (Ef : Nat → Nat → Int32) (σ : HS) (z0 m9 f : Nat) (sz : Nat) (hSk : SOK Lo Se Em Ef gp gi am dl) (hR : RelX 0 σ μ) (hk : rK μ 0 ≤ 100000) (hz0 : z0 < 6) (hm : m9 < 60) (hf : f < 8) : kMP l yX3_greatest wsX3_greatest rmX3_greatest D (kT cI cZ cO cJ) [.ref (y 0), .int (nI z0), .int (nI (m9 + 1)), .int (nI f)] (wM cI cZ y Lo Se Em gp gi am li dl (rK μ) (rT μ) (rE μ) (rD μ) (rF μ) (rS μ) (rC μ) Ho th) (fun u : MS => wM cI cZ y Lo Se Em gp gi am li dl (rK u) (rT u) (rE u) (rD u) (rF u) (rS u) (rC u) Ho th) (fun u : MS => sameR μ u) sz (gOf gp gi am Lo Se Ef dl (hFail σ f) z0 m9) := by
  refine kEnter (cc := cX3_greatest) (maxL := 6) (ret := some .int) (by decide +kernel) rfl (Nat.le_of_ble_eq_true rfl) ?_
  intro p e s m below meth c args hx hb hr hml hts hown hlocks hin hK hN A hA9 Q hQ9 hP hD hsz hS hA ls hl
  have hl : lv_has ls 6 [(0, .ref (y 0)), (1, .int (nI z0)), (2, .int (nI (m9 + 1))), (3, .int (nI f))] := hl
  have hi_X3 : ∀ w ∈ u_ws RX3 TX3 17, w ∈ wsX3_greatest := by decide +kernel
  obtain ⟨H, hH9⟩ : ∃ H, H = s.heap := ⟨_, rfl⟩
  rw [← hH9] at hP ⊢
  have hS : va_S A s.heap H [] := by rw [hH9]; exact va_S.rf
  refine lv_aload_n hx hb dX3_greatest_0 rfl (lv_at hl 0 rfl) ?_
  refine kCallW_v (W1 := wM cI cZ y Lo Se Em gp gi am li dl (rK (cpM μ)) (rT (cpM μ)) (rE (cpM μ)) (rD (cpM μ)) (rF (cpM μ)) (rS (cpM μ)) (rC (cpM μ)) Ho th) hD hS hA rfl (va_runV (As := []) (rest := []) ⟨hx, hb, hml, hown, hts⟩ (c_X3_copies l D cI cZ cO cJ y Lo Se Em gp gi am li dl μ Ho th Ef σ H.size (rel0_b hR)) (cwV (rm := rmX3_copies) 0 hts gX3_greatest_X3_copies rfl rfl rfl (by decide +kernel) ⟨Nat.le_of_ble_eq_true rfl, Nat.le_of_ble_eq_true rfl⟩) (kPreVW hK hN hP hD (va_recv hK hP (ci := 3) (q0 := 0) rfl rfl)) rfl rfl hl.1 rfl (lv_room (Nat.le_of_ble_eq_true rfl)) dX3_greatest_1 ⟨Nat.zero_le _, Nat.zero_le _⟩) (fun H locs hP hD hS => ?_)
  have hP : va_P D vwCl (wM cI cZ y Lo Se Em gp gi am li dl (rK (cpM μ)) (rT (cpM μ)) (rE (cpM μ)) (rD (cpM μ)) (rF (cpM μ)) (rS (cpM μ)) (rC (cpM μ)) Ho th) H := hP
  have hD : va_D A (wM cI cZ y Lo Se Em gp gi am li dl (rK (cpM μ)) (rT (cpM μ)) (rE (cpM μ)) (rD (cpM μ)) (rF (cpM μ)) (rS (cpM μ)) (rC (cpM μ)) Ho th) := hD
  refine lv_iload_n hx hb dX3_greatest_4 rfl (lv_at hl 3 rfl) ?_
  refine lv_iconst (v := (-1)) hx hb dX3_greatest_5 (by decide +kernel) ?_
  refine lv_icmp_eq (tgt := 19) hx hb dX3_greatest_6 (by decide) (fun c9 => absurd c9 (nI_m1 (by omega))) (fun _ => ?_)
  refine lv_aload_n hx hb dX3_greatest_9 rfl (lv_at hl 0 rfl) ?_
  refine va_get (D := D) (ci := 3) (v := .ref (y 8)) (C := RX3) (T := TX3) (N := 17) hx hb hts hi_X3 hown hK hP 0 rfl rfl 12 (by decide) (hts (.fieldLink RX3 47 "ColdaisleModel" "hasFailed" "[Z") (by decide +kernel)) (fun _ h9 => h9) rfl dX3_greatest_10 ?_
  refine lv_bipush (v := nI 8) hx hb dX3_greatest_13 (by decide +kernel) ?_
  refine lv_iload_n hx hb dX3_greatest_15 rfl (lv_at hl 3 rfl) ?_
  refine lv_iadd hx hb dX3_greatest_16 ?_
  refine k_as (nI_add _ _) ?_
  refine lv_iconst (v := nI 1) hx hb dX3_greatest_17 (by decide +kernel) ?_
  refine k_zast hx hb hK hP hD hS 8 1 rfl rfl (i := 8 + f) (x := nI 1) (x' := nI 1) (by omega) (by decide) (by decide +kernel) dX3_greatest_18 (fun H locs hP hD hS => ?_)
  have hP : va_P D vwCl (wM cI cZ y Lo Se Em gp gi am li dl (rK (cpM μ)) (rT (cpM μ)) (rE (cpM μ)) (rD (cpM μ)) (upd (rF (cpM μ)) (8 + f) (nI 1)) (rS (cpM μ)) (rC (cpM μ)) Ho th) H := hP
  have hD : va_D A (wM cI cZ y Lo Se Em gp gi am li dl (rK (cpM μ)) (rT (cpM μ)) (rE (cpM μ)) (rD (cpM μ)) (upd (rF (cpM μ)) (8 + f) (nI 1)) (rS (cpM μ)) (rC (cpM μ)) Ho th) := hD
  have hP : va_P D vwCl (wM cI cZ y Lo Se Em gp gi am li dl (rK (flM (cpM μ) f)) (rT (flM (cpM μ) f)) (rE (flM (cpM μ) f)) (rD (flM (cpM μ) f)) (rF (flM (cpM μ) f)) (rS (flM (cpM μ) f)) (rC (flM (cpM μ) f)) Ho th) H := hP
  have hD : va_D A (wM cI cZ y Lo Se Em gp gi am li dl (rK (flM (cpM μ) f)) (rT (flM (cpM μ) f)) (rE (flM (cpM μ) f)) (rD (flM (cpM μ) f)) (rF (flM (cpM μ) f)) (rS (flM (cpM μ) f)) (rC (flM (cpM μ) f)) Ho th) := hD
  have hR9 := flM_rel (g := f) (cpM_rel hR)
  have hs9 := sameR_tr (cpM_same μ) (flM_same (cpM μ) f)
  have hk9 : rK (flM (cpM μ) f) 1 = rK μ 0 := show va_up (rK μ) 1 (rK μ 0) 1 = rK μ 0 from va_up_self _ _ _
  obtain ⟨ν0, hν0⟩ : ∃ ν0, ν0 = flM (cpM μ) f := ⟨_, rfl⟩
  rw [← hν0] at hP hD hR9 hs9 hk9
  refine lv_aload_n hx hb dX3_greatest_19 rfl (lv_at hl 0 rfl) ?_
  refine lv_iconst (v := nI 1) hx hb dX3_greatest_20 (by decide +kernel) ?_
  refine kCallW_v (W1 := wM cI cZ y Lo Se Em gp gi am li dl (rK (qStep 1 gp gi am Lo Se Em dl ν0)) (rT (qStep 1 gp gi am Lo Se Em dl ν0)) (rE (qStep 1 gp gi am Lo Se Em dl ν0)) (rD (qStep 1 gp gi am Lo Se Em dl ν0)) (rF (qStep 1 gp gi am Lo Se Em dl ν0)) (rS (qStep 1 gp gi am Lo Se Em dl ν0)) (rC (qStep 1 gp gi am Lo Se Em dl ν0)) Ho th) hD hS hA rfl (va_runV (As := [.int (nI 1)]) (rest := []) ⟨hx, hb, hml, hown, hts⟩ (c_X3_minute l D cI cZ cO cJ y Lo Se Em gp gi am li dl (rK ν0) (rT ν0) (rE ν0) (rD ν0) (rF ν0) (rS ν0) (rC ν0) Ho th 1 H.size (by decide) (by omega) hSk.2.2.2.2.2.2.1) (cwV (rm := rmX3_minute) 1 hts gX3_greatest_X3_minute rfl rfl rfl (by decide +kernel) ⟨Nat.le_of_ble_eq_true rfl, Nat.le_of_ble_eq_true rfl⟩) (kPreVW hK hN hP hD (va_recv hK hP (ci := 3) (q0 := 0) rfl rfl)) rfl rfl hl.1 rfl (lv_room (Nat.le_of_ble_eq_true rfl)) dX3_greatest_21 ⟨Nat.zero_le _, Nat.zero_le _⟩) (fun H locs hP hD hS => ?_)
  have hP : va_P D vwCl (wM cI cZ y Lo Se Em gp gi am li dl (rK (qStep 1 gp gi am Lo Se Em dl ν0)) (rT (qStep 1 gp gi am Lo Se Em dl ν0)) (rE (qStep 1 gp gi am Lo Se Em dl ν0)) (rD (qStep 1 gp gi am Lo Se Em dl ν0)) (rF (qStep 1 gp gi am Lo Se Em dl ν0)) (rS (qStep 1 gp gi am Lo Se Em dl ν0)) (rC (qStep 1 gp gi am Lo Se Em dl ν0)) Ho th) H := hP
  have hD : va_D A (wM cI cZ y Lo Se Em gp gi am li dl (rK (qStep 1 gp gi am Lo Se Em dl ν0)) (rT (qStep 1 gp gi am Lo Se Em dl ν0)) (rE (qStep 1 gp gi am Lo Se Em dl ν0)) (rD (qStep 1 gp gi am Lo Se Em dl ν0)) (rF (qStep 1 gp gi am Lo Se Em dl ν0)) (rS (qStep 1 gp gi am Lo Se Em dl ν0)) (rC (qStep 1 gp gi am Lo Se Em dl ν0)) Ho th) := hD
  have hR8 := rel_step hSk hR9
  have hs8 := sameR_tr hs9 (qStep_same gp gi am Lo Se Em dl ν0)
  have hk8 := (qStep_K 1 gp gi am Lo Se Em dl ν0).trans (congrArg (· + 1) hk9)
  obtain ⟨ρ, hρ⟩ : ∃ ρ, ρ = qStep 1 gp gi am Lo Se Em dl ν0 := ⟨_, rfl⟩
  rw [← hρ] at hP hD hR8 hs8 hk8
  have hv : rT ρ (6 + z0) = sT (hRun gp gi am Lo Se Ef dl 1 (hFail σ f)) z0 := by have h1 := hR8.1.1 z0 hz0; rwa [show 6 * 1 + z0 = 6 + z0 from by omega] at h1
  refine lv_aload_n hx hb dX3_greatest_24 rfl (lv_at hl 0 rfl) ?_
  refine va_get (D := D) (ci := 3) (v := .ref (y 5)) (C := RX3) (T := TX3) (N := 17) hx hb hts hi_X3 hown hK hP 0 rfl rfl 9 (by decide) (hts (.fieldLink RX3 38 "ColdaisleModel" "temperatures" "[I") (by decide +kernel)) (fun _ h9 => h9) rfl dX3_greatest_25 ?_
  refine lv_bipush (v := nI 6) hx hb dX3_greatest_28 (by decide +kernel) ?_
  refine lv_iload_n hx hb dX3_greatest_30 rfl (lv_at hl 1 rfl) ?_
  refine lv_iadd hx hb dX3_greatest_31 ?_
  refine k_as (nI_add _ _) ?_
  refine k_iald hx hb hK hP 5 0 rfl rfl (i := 6 + z0) (by omega) (by decide) dX3_greatest_32 ?_
  refine k_as hv ?_
  refine lv_istore (lv' := [(4, .int (gTop (fun k => sT (hRun gp gi am Lo Se Ef dl (k + 1) (hFail σ f)) z0) 0)), (0, .ref (y 0)), (1, .int (nI z0)), (2, .int (nI (m9 + 1))), (3, .int (nI f))]) hx hb dX3_greatest_33 hl (by decide) rfl (fun ls hl => ?_)
  refine lv_iconst (v := nI 1) hx hb dX3_greatest_35 (by decide +kernel) ?_
  refine lv_istore (lv' := [(5, .int (nI 1)), (4, .int (gTop (fun k => sT (hRun gp gi am Lo Se Ef dl (k + 1) (hFail σ f)) z0) 0)), (0, .ref (y 0)), (1, .int (nI z0)), (2, .int (nI (m9 + 1))), (3, .int (nI f))]) hx hb dX3_greatest_36 hl (by decide) rfl (fun ls hl => ?_)
  have lp : ∀ (n z : Nat), z + n = m9 → ∀ (ν : MS), RelX 1 (hRun gp gi am Lo Se Ef dl (z + 1) (hFail σ f)) ν → sameR μ ν → rK ν 1 = rK μ 0 + (z + 1) → ∀ (H : Heap) (locs : List Loc), va_P D vwCl (wM cI cZ y Lo Se Em gp gi am li dl (rK ν) (rT ν) (rE ν) (rD ν) (rF ν) (rS ν) (rC ν) Ho th) H → va_D A (wM cI cZ y Lo Se Em gp gi am li dl (rK ν) (rT ν) (rE ν) (rD ν) (rF ν) (rS ν) (rC ν) Ho th) → va_S A s.heap H locs → ∀ ls : Array Slot, lv_has ls 6 [(0, .ref (y 0)), (1, .int (nI z0)), (2, .int (nI (m9 + 1))), (3, .int (nI f)), (4, .int (gTop (fun k => sT (hRun gp gi am Lo Se Ef dl (k + 1) (hFail σ f)) z0) z)), (5, .int (nI (z + 1)))] → W p l e rmX3_greatest s m args below meth c H locs 0 0 Q (F0 m 38 ls []) := by
    intro n
    induction n with
    | zero =>
      intro z hz ν hR9 hs9 hk9 H locs hP hD hS ls hl
      have hz9 : m9 = z := by omega
      subst hz9
      refine lv_iload hx hb dX3_greatest_38 (lv_at hl 5 rfl) ?_
      refine lv_iload_n hx hb dX3_greatest_40 rfl (lv_at hl 2 rfl) ?_
      refine lv_icmp_ge (tgt := 85) hx hb dX3_greatest_41 (by decide) (fun _ => ?_) (fun c9 => absurd (nI_le (Nat.le_refl _) (by omega)) c9)
      refine lv_iload hx hb dX3_greatest_85 (lv_at hl 4 rfl) ?_
      subst hQ9
      subst hA9
      exact kRetP_i (S := MS) (W1 := fun u : MS => wM cI cZ y Lo Se Em gp gi am li dl (rK u) (rT u) (rE u) (rD u) (rF u) (rS u) (rC u) Ho th) (P := fun u : MS => sameR μ u) (ν) (hs9) hx hb hr hlocks hP hS dX3_greatest_87 rfl
    | succ n ih =>
      intro z hz ν hR9 hs9 hk9 H locs hP hD hS ls hl
      have hzb : z < m9 := by omega
      refine lv_iload hx hb dX3_greatest_38 (lv_at hl 5 rfl) ?_
      refine lv_iload_n hx hb dX3_greatest_40 rfl (lv_at hl 2 rfl) ?_
      refine lv_icmp_ge (tgt := 85) hx hb dX3_greatest_41 (by decide) (fun c9 => absurd c9 (nI_ge (by omega) (by omega))) (fun _ => ?_)
      refine lv_aload_n hx hb dX3_greatest_44 rfl (lv_at hl 0 rfl) ?_
      refine lv_iconst (v := nI 1) hx hb dX3_greatest_45 (by decide +kernel) ?_
      refine kCallW_v (W1 := wM cI cZ y Lo Se Em gp gi am li dl (rK (qStep 1 gp gi am Lo Se Em dl ν)) (rT (qStep 1 gp gi am Lo Se Em dl ν)) (rE (qStep 1 gp gi am Lo Se Em dl ν)) (rD (qStep 1 gp gi am Lo Se Em dl ν)) (rF (qStep 1 gp gi am Lo Se Em dl ν)) (rS (qStep 1 gp gi am Lo Se Em dl ν)) (rC (qStep 1 gp gi am Lo Se Em dl ν)) Ho th) hD hS hA rfl (va_runV (As := [.int (nI 1)]) (rest := []) ⟨hx, hb, hml, hown, hts⟩ (c_X3_minute l D cI cZ cO cJ y Lo Se Em gp gi am li dl (rK ν) (rT ν) (rE ν) (rD ν) (rF ν) (rS ν) (rC ν) Ho th 1 H.size (by decide) (by omega) hSk.2.2.2.2.2.2.1) (cwV (rm := rmX3_minute) 1 hts gX3_greatest_X3_minute rfl rfl rfl (by decide +kernel) ⟨Nat.le_of_ble_eq_true rfl, Nat.le_of_ble_eq_true rfl⟩) (kPreVW hK hN hP hD (va_recv hK hP (ci := 3) (q0 := 0) rfl rfl)) rfl rfl hl.1 rfl (lv_room (Nat.le_of_ble_eq_true rfl)) dX3_greatest_46 ⟨Nat.zero_le _, Nat.zero_le _⟩) (fun H locs hP hD hS => ?_)
      have hP : va_P D vwCl (wM cI cZ y Lo Se Em gp gi am li dl (rK (qStep 1 gp gi am Lo Se Em dl ν)) (rT (qStep 1 gp gi am Lo Se Em dl ν)) (rE (qStep 1 gp gi am Lo Se Em dl ν)) (rD (qStep 1 gp gi am Lo Se Em dl ν)) (rF (qStep 1 gp gi am Lo Se Em dl ν)) (rS (qStep 1 gp gi am Lo Se Em dl ν)) (rC (qStep 1 gp gi am Lo Se Em dl ν)) Ho th) H := hP
      have hD : va_D A (wM cI cZ y Lo Se Em gp gi am li dl (rK (qStep 1 gp gi am Lo Se Em dl ν)) (rT (qStep 1 gp gi am Lo Se Em dl ν)) (rE (qStep 1 gp gi am Lo Se Em dl ν)) (rD (qStep 1 gp gi am Lo Se Em dl ν)) (rF (qStep 1 gp gi am Lo Se Em dl ν)) (rS (qStep 1 gp gi am Lo Se Em dl ν)) (rC (qStep 1 gp gi am Lo Se Em dl ν)) Ho th) := hD
      have hR8 := rel_step hSk hR9.1
      have hs8 := sameR_tr hs9 (qStep_same gp gi am Lo Se Em dl ν)
      have hk8 := (qStep_K 1 gp gi am Lo Se Em dl ν).trans (congrArg (· + 1) hk9)
      obtain ⟨ρ, hρ⟩ : ∃ ρ, ρ = qStep 1 gp gi am Lo Se Em dl ν := ⟨_, rfl⟩
      rw [← hρ] at hP hD hR8 hs8 hk8
      have hv : rT ρ (6 + z0) = sT (hRun gp gi am Lo Se Ef dl (z + 1 + 1) (hFail σ f)) z0 := by have h1 := hR8.1.1 z0 hz0; rwa [show 6 * 1 + z0 = 6 + z0 from by omega] at h1
      refine lv_aload_n hx hb dX3_greatest_49 rfl (lv_at hl 0 rfl) ?_
      refine va_get (D := D) (ci := 3) (v := .ref (y 5)) (C := RX3) (T := TX3) (N := 17) hx hb hts hi_X3 hown hK hP 0 rfl rfl 9 (by decide) (hts (.fieldLink RX3 38 "ColdaisleModel" "temperatures" "[I") (by decide +kernel)) (fun _ h9 => h9) rfl dX3_greatest_50 ?_
      refine lv_bipush (v := nI 6) hx hb dX3_greatest_53 (by decide +kernel) ?_
      refine lv_iload_n hx hb dX3_greatest_55 rfl (lv_at hl 1 rfl) ?_
      refine lv_iadd hx hb dX3_greatest_56 ?_
      refine k_as (nI_add _ _) ?_
      refine k_iald hx hb hK hP 5 0 rfl rfl (i := 6 + z0) (by omega) (by decide) dX3_greatest_57 ?_
      refine k_as hv ?_
      refine lv_iload hx hb dX3_greatest_58 (lv_at hl 4 rfl) ?_
      refine lv_icmp_le (tgt := 75) hx hb dX3_greatest_60 (by decide) (fun c1 => ?_) (fun c1 => ?_)
      · refine lv_iload hx hb dX3_greatest_75 (lv_at hl 4 rfl) ?_
        refine lv_istore (lv' := [(4, .int (gTop (fun k => sT (hRun gp gi am Lo Se Ef dl (k + 1) (hFail σ f)) z0) z)), (0, .ref (y 0)), (1, .int (nI z0)), (2, .int (nI (m9 + 1))), (3, .int (nI f)), (5, .int (nI (z + 1)))]) hx hb dX3_greatest_77 hl (by decide) rfl (fun ls hl => ?_)
        refine lv_iinc (v := nI (z + 1 + 1)) (lv' := [(5, .int (nI (z + 1 + 1))), (4, .int (gTop (fun k => sT (hRun gp gi am Lo Se Ef dl (k + 1) (hFail σ f)) z0) z)), (0, .ref (y 0)), (1, .int (nI z0)), (2, .int (nI (m9 + 1))), (3, .int (nI f))]) hx hb dX3_greatest_79 hl (k := 5) rfl (k_inc _) (by decide) rfl (fun ls hl => ?_)
        refine lv_goto (tgt := 38) hx hb dX3_greatest_82 (by decide) ?_
        exact ih (z + 1) (by omega) ρ hR8 hs8 (by omega) H locs hP hD hS ls (by rw [show gTop (fun k => sT (hRun gp gi am Lo Se Ef dl (k + 1) (hFail σ f)) z0) (z + 1) = _ from mMax_l c1]; exact (lv_sub hl [2, 3, 4, 5, 1, 0] rfl))
      · refine lv_aload_n hx hb dX3_greatest_63 rfl (lv_at hl 0 rfl) ?_
        refine va_get (D := D) (ci := 3) (v := .ref (y 5)) (C := RX3) (T := TX3) (N := 17) hx hb hts hi_X3 hown hK hP 0 rfl rfl 9 (by decide) (hts (.fieldLink RX3 38 "ColdaisleModel" "temperatures" "[I") (by decide +kernel)) (fun _ h9 => h9) rfl dX3_greatest_64 ?_
        refine lv_bipush (v := nI 6) hx hb dX3_greatest_67 (by decide +kernel) ?_
        refine lv_iload_n hx hb dX3_greatest_69 rfl (lv_at hl 1 rfl) ?_
        refine lv_iadd hx hb dX3_greatest_70 ?_
        refine k_as (nI_add _ _) ?_
        refine k_iald hx hb hK hP 5 0 rfl rfl (i := 6 + z0) (by omega) (by decide) dX3_greatest_71 ?_
        refine k_as hv ?_
        refine lv_goto (tgt := 77) hx hb dX3_greatest_72 (by decide) ?_
        refine lv_istore (lv' := [(4, .int (sT (hRun gp gi am Lo Se Ef dl (z + 1 + 1) (hFail σ f)) z0)), (0, .ref (y 0)), (1, .int (nI z0)), (2, .int (nI (m9 + 1))), (3, .int (nI f)), (5, .int (nI (z + 1)))]) hx hb dX3_greatest_77 hl (by decide) rfl (fun ls hl => ?_)
        refine lv_iinc (v := nI (z + 1 + 1)) (lv' := [(5, .int (nI (z + 1 + 1))), (4, .int (sT (hRun gp gi am Lo Se Ef dl (z + 1 + 1) (hFail σ f)) z0)), (0, .ref (y 0)), (1, .int (nI z0)), (2, .int (nI (m9 + 1))), (3, .int (nI f))]) hx hb dX3_greatest_79 hl (k := 5) rfl (k_inc _) (by decide) rfl (fun ls hl => ?_)
        refine lv_goto (tgt := 38) hx hb dX3_greatest_82 (by decide) ?_
        exact ih (z + 1) (by omega) ρ hR8 hs8 (by omega) H locs hP hD hS ls (by rw [show gTop (fun k => sT (hRun gp gi am Lo Se Ef dl (k + 1) (hFail σ f)) z0) (z + 1) = _ from mMax_r c1]; exact (lv_sub hl [2, 3, 4, 5, 1, 0] rfl))
  exact lp m9 0 (by omega) ρ hR8 hs8 hk8 H locs hP hD hS ls (lv_sub hl [2, 3, 4, 5, 1, 0] rfl)

abbrev rmX3_worst : Room := { frames := 4, cells := 0, slots := 0, locals := 97 }
set_option maxHeartbeats 4000000 in
set_option maxRecDepth 100000 in
/-- worst -/
theorem c_X3_worst (l : Launch) (D : va_G) (cI cZ cO cJ : ClassId) (y : Nat → Nat) (Lo Se Em : Nat → Int32) (gp gi am li : Int32) (dl : Nat) (μ : MS) (Ho : Nat → Int32) (th : Int32) (Ef : Nat → Nat → Int32) (σ : HS) (z0 m9 : Nat) (sz : Nat) (hSk : SOK Lo Se Em Ef gp gi am dl) (hR : RelX 0 σ μ) (hk : rK μ 0 ≤ 100000) (hz0 : z0 < 6) (hm : m9 < 60) : kMP l yX3_worst wsX3_worst rmX3_worst D (kT cI cZ cO cJ) [.ref (y 0), .int (nI z0), .int (nI (m9 + 1))] (wM cI cZ y Lo Se Em gp gi am li dl (rK μ) (rT μ) (rE μ) (rD μ) (rF μ) (rS μ) (rC μ) Ho th) (fun u : MS => wM cI cZ y Lo Se Em gp gi am li dl (rK u) (rT u) (rE u) (rD u) (rF u) (rS u) (rC u) Ho th) (fun u : MS => sameR μ u) sz ((crit (sF σ) (fun f => gOf gp gi am Lo Se Ef dl (hFail σ f) z0 m9) 8).1) := by
  refine kEnter (cc := cX3_worst) (maxL := 8) (ret := some .int) (by decide +kernel) rfl (Nat.le_of_ble_eq_true rfl) ?_
  intro p e s m below meth c args hx hb hr hml hts hown hlocks hin hK hN A hA9 Q hQ9 hP hD hsz hS hA ls hl
  have hl : lv_has ls 8 [(0, .ref (y 0)), (1, .int (nI z0)), (2, .int (nI (m9 + 1)))] := hl
  have hi_X3 : ∀ w ∈ u_ws RX3 TX3 17, w ∈ wsX3_worst := by decide +kernel
  obtain ⟨H, hH9⟩ : ∃ H, H = s.heap := ⟨_, rfl⟩
  rw [← hH9] at hP ⊢
  have hS : va_S A s.heap H [] := by rw [hH9]; exact va_S.rf
  refine lv_iconst (v := (-1)) hx hb dX3_worst_0 (by decide +kernel) ?_
  refine lv_istore_n (lv' := [(3, .int (-1)), (0, .ref (y 0)), (1, .int (nI z0)), (2, .int (nI (m9 + 1)))]) hx hb dX3_worst_1 rfl hl (by decide) rfl (fun ls hl => ?_)
  refine lv_iconst (v := nI 0) hx hb dX3_worst_2 (by decide +kernel) ?_
  refine lv_istore (lv' := [(4, .int (nI 0)), (3, .int (-1)), (0, .ref (y 0)), (1, .int (nI z0)), (2, .int (nI (m9 + 1)))]) hx hb dX3_worst_3 hl (by decide) rfl (fun ls hl => ?_)
  refine lv_iconst (v := nI 0) hx hb dX3_worst_5 (by decide +kernel) ?_
  refine lv_istore (lv' := [(5, .int (nI 0)), (4, .int (nI 0)), (3, .int (-1)), (0, .ref (y 0)), (1, .int (nI z0)), (2, .int (nI (m9 + 1)))]) hx hb dX3_worst_6 hl (by decide) rfl (fun ls hl => ?_)
  have lp : ∀ (n z : Nat), z + n = 8 → ∀ (ν : MS), sameR μ ν → ∀ (H : Heap) (locs : List Loc), va_P D vwCl (wM cI cZ y Lo Se Em gp gi am li dl (rK ν) (rT ν) (rE ν) (rD ν) (rF ν) (rS ν) (rC ν) Ho th) H → va_D A (wM cI cZ y Lo Se Em gp gi am li dl (rK ν) (rT ν) (rE ν) (rD ν) (rF ν) (rS ν) (rC ν) Ho th) → va_S A s.heap H locs → ∀ ls : Array Slot, lv_has ls 8 [(0, .ref (y 0)), (1, .int (nI z0)), (2, .int (nI (m9 + 1))), (3, .int ((crit (sF σ) (fun f => gOf gp gi am Lo Se Ef dl (hFail σ f) z0 m9) z).1)), (4, .int ((crit (sF σ) (fun f => gOf gp gi am Lo Se Ef dl (hFail σ f) z0 m9) z).2)), (5, .int (nI z))] → W p l e rmX3_worst s m args below meth c H locs 0 0 Q (F0 m 8 ls []) := by
    intro n
    induction n with
    | zero =>
      intro z hz ν hs9 H locs hP hD hS ls hl
      have hRc := relX_same hR hs9
      have hkc : rK ν 0 ≤ 100000 := by rw [hs9.1]; exact hk
      have hz9 : z = 8 := by omega
      subst hz9
      refine lv_iload hx hb dX3_worst_8 (lv_at hl 5 rfl) ?_
      refine lv_bipush (v := nI 8) hx hb dX3_worst_10 (by decide +kernel) ?_
      refine lv_icmp_ge (tgt := 100) hx hb dX3_worst_12 (by decide) (fun _ => ?_) (fun c9 => absurd (by decide +kernel) c9)
      refine lv_iload_n hx hb dX3_worst_100 rfl (lv_at hl 3 rfl) ?_
      subst hQ9
      subst hA9
      exact kRetP_i (S := MS) (W1 := fun u : MS => wM cI cZ y Lo Se Em gp gi am li dl (rK u) (rT u) (rE u) (rD u) (rF u) (rS u) (rC u) Ho th) (P := fun u : MS => sameR μ u) (ν) (hs9) hx hb hr hlocks hP hS dX3_worst_101 rfl
    | succ n ih =>
      intro z hz ν hs9 H locs hP hD hS ls hl
      have hRc := relX_same hR hs9
      have hkc : rK ν 0 ≤ 100000 := by rw [hs9.1]; exact hk
      have hzb : z < 8 := by omega
      refine lv_iload hx hb dX3_worst_8 (lv_at hl 5 rfl) ?_
      refine lv_bipush (v := nI 8) hx hb dX3_worst_10 (by decide +kernel) ?_
      refine lv_icmp_ge (tgt := 100) hx hb dX3_worst_12 (by decide) (fun c9 => absurd c9 (nI_ge hzb (by decide))) (fun _ => ?_)
      refine lv_aload_n hx hb dX3_worst_15 rfl (lv_at hl 0 rfl) ?_
      refine va_get (D := D) (ci := 3) (v := .ref (y 8)) (C := RX3) (T := TX3) (N := 17) hx hb hts hi_X3 hown hK hP 0 rfl rfl 12 (by decide) (hts (.fieldLink RX3 47 "ColdaisleModel" "hasFailed" "[Z") (by decide +kernel)) (fun _ h9 => h9) rfl dX3_worst_16 ?_
      refine lv_iload hx hb dX3_worst_19 (lv_at hl 5 rfl) ?_
      refine k_zald hx hb hK hP 8 1 rfl rfl (i := z) (by omega) (by decide) dX3_worst_21 ?_
      refine k_as (rel0_F hRc hzb) ?_
      refine lv_if_eq (tgt := 29) hx hb dX3_worst_22 (by decide) (fun c1 => ?_) (fun c1 => ?_)
      · refine lv_aload_n hx hb dX3_worst_29 rfl (lv_at hl 0 rfl) ?_
        refine lv_iload_n hx hb dX3_worst_30 rfl (lv_at hl 1 rfl) ?_
        refine lv_iload_n hx hb dX3_worst_31 rfl (lv_at hl 2 rfl) ?_
        refine lv_iload hx hb dX3_worst_32 (lv_at hl 5 rfl) ?_
        refine kCallWP_i (S := MS) (W1 := fun u : MS => wM cI cZ y Lo Se Em gp gi am li dl (rK u) (rT u) (rE u) (rD u) (rF u) (rS u) (rC u) Ho th) (P := fun u : MS => sameR ν u) hD hS hA (fun _ => rfl) (va_runV (As := [.int (nI z0), .int (nI (m9 + 1)), .int (nI z)]) (rest := []) ⟨hx, hb, hml, hown, hts⟩ (c_X3_greatest_f l D cI cZ cO cJ y Lo Se Em gp gi am li dl ν Ho th Ef σ z0 m9 z H.size hSk hRc hkc (by omega) (by omega) (by omega)) (cwV (rm := rmX3_greatest) 3 hts gX3_worst_X3_greatest rfl rfl rfl (by decide +kernel) ⟨Nat.le_of_ble_eq_true rfl, Nat.le_of_ble_eq_true rfl⟩) (kPreVW hK hN hP hD (va_recv hK hP (ci := 3) (q0 := 0) rfl rfl)) rfl rfl hl.1 rfl (lv_room (Nat.le_of_ble_eq_true rfl)) dX3_worst_34 ⟨Nat.zero_le _, Nat.zero_le _⟩) (fun u8 H locs hu8 hP hD hS => ?_)
        have hs9 := sameR_tr hs9 hu8
        have hRc := relX_same hRc hu8
        have hkc : rK u8 0 ≤ 100000 := by rw [hu8.1]; exact hkc
        refine lv_istore (lv' := [(6, .int (gOf gp gi am Lo Se Ef dl (hFail σ z) z0 m9)), (0, .ref (y 0)), (1, .int (nI z0)), (2, .int (nI (m9 + 1))), (3, .int ((crit (sF σ) (fun f => gOf gp gi am Lo Se Ef dl (hFail σ f) z0 m9) z).1)), (4, .int ((crit (sF σ) (fun f => gOf gp gi am Lo Se Ef dl (hFail σ f) z0 m9) z).2)), (5, .int (nI z))]) hx hb dX3_worst_37 hl (by decide) rfl (fun ls hl => ?_)
        refine lv_aload_n hx hb dX3_worst_39 rfl (lv_at hl 1 rfl) ?_
        refine va_get (D := D) (ci := 3) (v := .ref (y 8)) (C := RX3) (T := TX3) (N := 17) hx hb hts hi_X3 hown hK hP 0 rfl rfl 12 (by decide) (hts (.fieldLink RX3 47 "ColdaisleModel" "hasFailed" "[Z") (by decide +kernel)) (fun _ h9 => h9) rfl dX3_worst_40 ?_
        refine lv_iload hx hb dX3_worst_43 (lv_at hl 6 rfl) ?_
        refine k_zald hx hb hK hP 8 1 rfl rfl (i := z) (by omega) (by decide) dX3_worst_45 ?_
        refine k_as (rel0_F hRc hzb) ?_
        refine lv_if_ne (tgt := 65) hx hb dX3_worst_46 (by decide) (fun c9 => absurd c1 c9) (fun _ => ?_)
        refine lv_iload_n hx hb dX3_worst_49 rfl (lv_at hl 4 rfl) ?_
        refine lv_iconst (v := (-1)) hx hb dX3_worst_50 (by decide +kernel) ?_
        refine lv_icmp_eq (tgt := 61) hx hb dX3_worst_51 (by decide) (fun c2 => ?_) (fun c2 => ?_)
        · refine lv_iconst (v := nI 1) hx hb dX3_worst_61 (by decide +kernel) ?_
          refine lv_goto (tgt := 66) hx hb dX3_worst_62 (by decide) ?_
          refine lv_istore (lv' := [(7, .int (nI 1)), (6, .int (gOf gp gi am Lo Se Ef dl (hFail σ z) z0 m9)), (0, .ref (y 0)), (1, .int (nI z0)), (2, .int (nI (m9 + 1))), (3, .int ((crit (sF σ) (fun f => gOf gp gi am Lo Se Ef dl (hFail σ f) z0 m9) z).1)), (4, .int ((crit (sF σ) (fun f => gOf gp gi am Lo Se Ef dl (hFail σ f) z0 m9) z).2)), (5, .int (nI z))]) hx hb dX3_worst_66 hl (by decide) rfl (fun ls hl => ?_)
          refine lv_iload hx hb dX3_worst_68 (lv_at hl 0 rfl) ?_
          refine lv_if_eq (tgt := 78) hx hb dX3_worst_70 (by decide) (fun c9 => absurd c9 (by decide +kernel)) (fun _ => ?_)
          refine lv_iload hx hb dX3_worst_73 (lv_at hl 7 rfl) ?_
          refine lv_goto (tgt := 79) hx hb dX3_worst_75 (by decide) ?_
          refine lv_istore_n (lv' := [(3, .int (nI z)), (7, .int (nI 1)), (6, .int (gOf gp gi am Lo Se Ef dl (hFail σ z) z0 m9)), (0, .ref (y 0)), (1, .int (nI z0)), (2, .int (nI (m9 + 1))), (4, .int ((crit (sF σ) (fun f => gOf gp gi am Lo Se Ef dl (hFail σ f) z0 m9) z).2)), (5, .int (nI z))]) hx hb dX3_worst_79 rfl hl (by decide) rfl (fun ls hl => ?_)
          refine lv_iload hx hb dX3_worst_80 (lv_at hl 1 rfl) ?_
          refine lv_if_eq (tgt := 90) hx hb dX3_worst_82 (by decide) (fun c9 => absurd c9 (by decide +kernel)) (fun _ => ?_)
          refine lv_iload hx hb dX3_worst_85 (lv_at hl 2 rfl) ?_
          refine lv_goto (tgt := 92) hx hb dX3_worst_87 (by decide) ?_
          refine lv_istore (lv' := [(4, .int (gOf gp gi am Lo Se Ef dl (hFail σ z) z0 m9)), (3, .int (nI z)), (7, .int (nI 1)), (6, .int (gOf gp gi am Lo Se Ef dl (hFail σ z) z0 m9)), (0, .ref (y 0)), (1, .int (nI z0)), (2, .int (nI (m9 + 1))), (5, .int (nI z))]) hx hb dX3_worst_92 hl (by decide) rfl (fun ls hl => ?_)
          refine lv_iinc (v := nI (z + 1)) (lv' := [(5, .int (nI (z + 1))), (4, .int (gOf gp gi am Lo Se Ef dl (hFail σ z) z0 m9)), (3, .int (nI z)), (7, .int (nI 1)), (6, .int (gOf gp gi am Lo Se Ef dl (hFail σ z) z0 m9)), (0, .ref (y 0)), (1, .int (nI z0)), (2, .int (nI (m9 + 1)))]) hx hb dX3_worst_94 hl (k := 7) rfl (k_inc _) (by decide) rfl (fun ls hl => ?_)
          refine lv_goto (tgt := 8) hx hb dX3_worst_97 (by decide) ?_
          exact ih (z + 1) (by omega) u8 hs9 H locs hP hD hS ls (by rw [crit_b (sF σ) (fun f => gOf gp gi am Lo Se Ef dl (hFail σ f) z0 m9) z c1 c2]; exact (lv_sub hl [5, 6, 7, 2, 1, 0] rfl))
        · refine lv_iload hx hb dX3_worst_54 (lv_at hl 0 rfl) ?_
          refine lv_iload hx hb dX3_worst_56 (lv_at hl 5 rfl) ?_
          refine lv_icmp_le (tgt := 65) hx hb dX3_worst_58 (by decide) (fun c3 => ?_) (fun c3 => ?_)
          · refine lv_iconst (v := nI 0) hx hb dX3_worst_65 (by decide +kernel) ?_
            refine lv_istore (lv' := [(7, .int (nI 0)), (6, .int (gOf gp gi am Lo Se Ef dl (hFail σ z) z0 m9)), (0, .ref (y 0)), (1, .int (nI z0)), (2, .int (nI (m9 + 1))), (3, .int ((crit (sF σ) (fun f => gOf gp gi am Lo Se Ef dl (hFail σ f) z0 m9) z).1)), (4, .int ((crit (sF σ) (fun f => gOf gp gi am Lo Se Ef dl (hFail σ f) z0 m9) z).2)), (5, .int (nI z))]) hx hb dX3_worst_66 hl (by decide) rfl (fun ls hl => ?_)
            refine lv_iload hx hb dX3_worst_68 (lv_at hl 0 rfl) ?_
            refine lv_if_eq (tgt := 78) hx hb dX3_worst_70 (by decide) (fun _ => ?_) (fun c9 => absurd (by decide +kernel) c9)
            refine lv_iload_n hx hb dX3_worst_78 rfl (lv_at hl 5 rfl) ?_
            refine lv_istore_n (lv' := [(3, .int ((crit (sF σ) (fun f => gOf gp gi am Lo Se Ef dl (hFail σ f) z0 m9) z).1)), (7, .int (nI 0)), (6, .int (gOf gp gi am Lo Se Ef dl (hFail σ z) z0 m9)), (0, .ref (y 0)), (1, .int (nI z0)), (2, .int (nI (m9 + 1))), (4, .int ((crit (sF σ) (fun f => gOf gp gi am Lo Se Ef dl (hFail σ f) z0 m9) z).2)), (5, .int (nI z))]) hx hb dX3_worst_79 rfl hl (by decide) rfl (fun ls hl => ?_)
            refine lv_iload hx hb dX3_worst_80 (lv_at hl 1 rfl) ?_
            refine lv_if_eq (tgt := 90) hx hb dX3_worst_82 (by decide) (fun _ => ?_) (fun c9 => absurd (by decide +kernel) c9)
            refine lv_iload hx hb dX3_worst_90 (lv_at hl 6 rfl) ?_
            refine lv_istore (lv' := [(4, .int ((crit (sF σ) (fun f => gOf gp gi am Lo Se Ef dl (hFail σ f) z0 m9) z).2)), (3, .int ((crit (sF σ) (fun f => gOf gp gi am Lo Se Ef dl (hFail σ f) z0 m9) z).1)), (7, .int (nI 0)), (6, .int (gOf gp gi am Lo Se Ef dl (hFail σ z) z0 m9)), (0, .ref (y 0)), (1, .int (nI z0)), (2, .int (nI (m9 + 1))), (5, .int (nI z))]) hx hb dX3_worst_92 hl (by decide) rfl (fun ls hl => ?_)
            refine lv_iinc (v := nI (z + 1)) (lv' := [(5, .int (nI (z + 1))), (4, .int ((crit (sF σ) (fun f => gOf gp gi am Lo Se Ef dl (hFail σ f) z0 m9) z).2)), (3, .int ((crit (sF σ) (fun f => gOf gp gi am Lo Se Ef dl (hFail σ f) z0 m9) z).1)), (7, .int (nI 0)), (6, .int (gOf gp gi am Lo Se Ef dl (hFail σ z) z0 m9)), (0, .ref (y 0)), (1, .int (nI z0)), (2, .int (nI (m9 + 1)))]) hx hb dX3_worst_94 hl (k := 7) rfl (k_inc _) (by decide) rfl (fun ls hl => ?_)
            refine lv_goto (tgt := 8) hx hb dX3_worst_97 (by decide) ?_
            exact ih (z + 1) (by omega) u8 hs9 H locs hP hD hS ls (by rw [crit_c (sF σ) (fun f => gOf gp gi am Lo Se Ef dl (hFail σ f) z0 m9) z c1 c2 c3]; exact (lv_sub hl [5, 6, 7, 2, 1, 0] rfl))
          · refine lv_iconst (v := nI 1) hx hb dX3_worst_61 (by decide +kernel) ?_
            refine lv_goto (tgt := 66) hx hb dX3_worst_62 (by decide) ?_
            refine lv_istore (lv' := [(7, .int (nI 1)), (6, .int (gOf gp gi am Lo Se Ef dl (hFail σ z) z0 m9)), (0, .ref (y 0)), (1, .int (nI z0)), (2, .int (nI (m9 + 1))), (3, .int ((crit (sF σ) (fun f => gOf gp gi am Lo Se Ef dl (hFail σ f) z0 m9) z).1)), (4, .int ((crit (sF σ) (fun f => gOf gp gi am Lo Se Ef dl (hFail σ f) z0 m9) z).2)), (5, .int (nI z))]) hx hb dX3_worst_66 hl (by decide) rfl (fun ls hl => ?_)
            refine lv_iload hx hb dX3_worst_68 (lv_at hl 0 rfl) ?_
            refine lv_if_eq (tgt := 78) hx hb dX3_worst_70 (by decide) (fun c9 => absurd c9 (by decide +kernel)) (fun _ => ?_)
            refine lv_iload hx hb dX3_worst_73 (lv_at hl 7 rfl) ?_
            refine lv_goto (tgt := 79) hx hb dX3_worst_75 (by decide) ?_
            refine lv_istore_n (lv' := [(3, .int (nI z)), (7, .int (nI 1)), (6, .int (gOf gp gi am Lo Se Ef dl (hFail σ z) z0 m9)), (0, .ref (y 0)), (1, .int (nI z0)), (2, .int (nI (m9 + 1))), (4, .int ((crit (sF σ) (fun f => gOf gp gi am Lo Se Ef dl (hFail σ f) z0 m9) z).2)), (5, .int (nI z))]) hx hb dX3_worst_79 rfl hl (by decide) rfl (fun ls hl => ?_)
            refine lv_iload hx hb dX3_worst_80 (lv_at hl 1 rfl) ?_
            refine lv_if_eq (tgt := 90) hx hb dX3_worst_82 (by decide) (fun c9 => absurd c9 (by decide +kernel)) (fun _ => ?_)
            refine lv_iload hx hb dX3_worst_85 (lv_at hl 2 rfl) ?_
            refine lv_goto (tgt := 92) hx hb dX3_worst_87 (by decide) ?_
            refine lv_istore (lv' := [(4, .int (gOf gp gi am Lo Se Ef dl (hFail σ z) z0 m9)), (3, .int (nI z)), (7, .int (nI 1)), (6, .int (gOf gp gi am Lo Se Ef dl (hFail σ z) z0 m9)), (0, .ref (y 0)), (1, .int (nI z0)), (2, .int (nI (m9 + 1))), (5, .int (nI z))]) hx hb dX3_worst_92 hl (by decide) rfl (fun ls hl => ?_)
            refine lv_iinc (v := nI (z + 1)) (lv' := [(5, .int (nI (z + 1))), (4, .int (gOf gp gi am Lo Se Ef dl (hFail σ z) z0 m9)), (3, .int (nI z)), (7, .int (nI 1)), (6, .int (gOf gp gi am Lo Se Ef dl (hFail σ z) z0 m9)), (0, .ref (y 0)), (1, .int (nI z0)), (2, .int (nI (m9 + 1)))]) hx hb dX3_worst_94 hl (k := 7) rfl (k_inc _) (by decide) rfl (fun ls hl => ?_)
            refine lv_goto (tgt := 8) hx hb dX3_worst_97 (by decide) ?_
            exact ih (z + 1) (by omega) u8 hs9 H locs hP hD hS ls (by rw [crit_d (sF σ) (fun f => gOf gp gi am Lo Se Ef dl (hFail σ f) z0 m9) z c1 c2 c3]; exact (lv_sub hl [5, 6, 7, 2, 1, 0] rfl))
      · refine lv_iconst (v := nI 0) hx hb dX3_worst_25 (by decide +kernel) ?_
        refine lv_goto (tgt := 37) hx hb dX3_worst_26 (by decide) ?_
        refine lv_istore (lv' := [(6, .int (nI 0)), (0, .ref (y 0)), (1, .int (nI z0)), (2, .int (nI (m9 + 1))), (3, .int ((crit (sF σ) (fun f => gOf gp gi am Lo Se Ef dl (hFail σ f) z0 m9) z).1)), (4, .int ((crit (sF σ) (fun f => gOf gp gi am Lo Se Ef dl (hFail σ f) z0 m9) z).2)), (5, .int (nI z))]) hx hb dX3_worst_37 hl (by decide) rfl (fun ls hl => ?_)
        refine lv_aload_n hx hb dX3_worst_39 rfl (lv_at hl 1 rfl) ?_
        refine va_get (D := D) (ci := 3) (v := .ref (y 8)) (C := RX3) (T := TX3) (N := 17) hx hb hts hi_X3 hown hK hP 0 rfl rfl 12 (by decide) (hts (.fieldLink RX3 47 "ColdaisleModel" "hasFailed" "[Z") (by decide +kernel)) (fun _ h9 => h9) rfl dX3_worst_40 ?_
        refine lv_iload hx hb dX3_worst_43 (lv_at hl 6 rfl) ?_
        refine k_zald hx hb hK hP 8 1 rfl rfl (i := z) (by omega) (by decide) dX3_worst_45 ?_
        refine k_as (rel0_F hRc hzb) ?_
        refine lv_if_ne (tgt := 65) hx hb dX3_worst_46 (by decide) (fun _ => ?_) (fun c9 => absurd c9 c1)
        refine lv_iconst (v := nI 0) hx hb dX3_worst_65 (by decide +kernel) ?_
        refine lv_istore (lv' := [(7, .int (nI 0)), (6, .int (nI 0)), (0, .ref (y 0)), (1, .int (nI z0)), (2, .int (nI (m9 + 1))), (3, .int ((crit (sF σ) (fun f => gOf gp gi am Lo Se Ef dl (hFail σ f) z0 m9) z).1)), (4, .int ((crit (sF σ) (fun f => gOf gp gi am Lo Se Ef dl (hFail σ f) z0 m9) z).2)), (5, .int (nI z))]) hx hb dX3_worst_66 hl (by decide) rfl (fun ls hl => ?_)
        refine lv_iload hx hb dX3_worst_68 (lv_at hl 0 rfl) ?_
        refine lv_if_eq (tgt := 78) hx hb dX3_worst_70 (by decide) (fun _ => ?_) (fun c9 => absurd (by decide +kernel) c9)
        refine lv_iload_n hx hb dX3_worst_78 rfl (lv_at hl 5 rfl) ?_
        refine lv_istore_n (lv' := [(3, .int ((crit (sF σ) (fun f => gOf gp gi am Lo Se Ef dl (hFail σ f) z0 m9) z).1)), (7, .int (nI 0)), (6, .int (nI 0)), (0, .ref (y 0)), (1, .int (nI z0)), (2, .int (nI (m9 + 1))), (4, .int ((crit (sF σ) (fun f => gOf gp gi am Lo Se Ef dl (hFail σ f) z0 m9) z).2)), (5, .int (nI z))]) hx hb dX3_worst_79 rfl hl (by decide) rfl (fun ls hl => ?_)
        refine lv_iload hx hb dX3_worst_80 (lv_at hl 1 rfl) ?_
        refine lv_if_eq (tgt := 90) hx hb dX3_worst_82 (by decide) (fun _ => ?_) (fun c9 => absurd (by decide +kernel) c9)
        refine lv_iload hx hb dX3_worst_90 (lv_at hl 6 rfl) ?_
        refine lv_istore (lv' := [(4, .int ((crit (sF σ) (fun f => gOf gp gi am Lo Se Ef dl (hFail σ f) z0 m9) z).2)), (3, .int ((crit (sF σ) (fun f => gOf gp gi am Lo Se Ef dl (hFail σ f) z0 m9) z).1)), (7, .int (nI 0)), (6, .int (nI 0)), (0, .ref (y 0)), (1, .int (nI z0)), (2, .int (nI (m9 + 1))), (5, .int (nI z))]) hx hb dX3_worst_92 hl (by decide) rfl (fun ls hl => ?_)
        refine lv_iinc (v := nI (z + 1)) (lv' := [(5, .int (nI (z + 1))), (4, .int ((crit (sF σ) (fun f => gOf gp gi am Lo Se Ef dl (hFail σ f) z0 m9) z).2)), (3, .int ((crit (sF σ) (fun f => gOf gp gi am Lo Se Ef dl (hFail σ f) z0 m9) z).1)), (7, .int (nI 0)), (6, .int (nI 0)), (0, .ref (y 0)), (1, .int (nI z0)), (2, .int (nI (m9 + 1)))]) hx hb dX3_worst_94 hl (k := 7) rfl (k_inc _) (by decide) rfl (fun ls hl => ?_)
        refine lv_goto (tgt := 8) hx hb dX3_worst_97 (by decide) ?_
        exact ih (z + 1) (by omega) ν hs9 H locs hP hD hS ls (by rw [crit_a (sF σ) (fun f => gOf gp gi am Lo Se Ef dl (hFail σ f) z0 m9) z c1]; exact (lv_sub hl [5, 6, 7, 2, 1, 0] rfl))
  exact lp 8 0 rfl μ (sameR_rf μ) H [] hP hD hS ls (lv_sub hl [3, 4, 5, 2, 1, 0] rfl)

abbrev rmX3_expected : Room := { frames := 4, cells := 0, slots := 0, locals := 97 }
set_option maxHeartbeats 4000000 in
set_option maxRecDepth 100000 in
/-- expected -/
theorem c_X3_expected_ok (l : Launch) (D : va_G) (cI cZ cO cJ : ClassId) (y : Nat → Nat) (Lo Se Em : Nat → Int32) (gp gi am li : Int32) (dl : Nat) (μ : MS) (Ho : Nat → Int32) (th : Int32) (Ef : Nat → Nat → Int32) (σ : HS) (z0 m9 : Nat) (sz : Nat) (hSk : SOK Lo Se Em Ef gp gi am dl) (hR : RelX 0 σ μ) (hk : rK μ 0 ≤ 100000) (hz0 : z0 < 6) (hm : m9 < 60) : kMP l yX3_expected wsX3_expected rmX3_expected D (kT cI cZ cO cJ) [.ref (y 0), .int (nI z0), .int (nI (m9 + 1))] (wM cI cZ y Lo Se Em gp gi am li dl (rK μ) (rT μ) (rE μ) (rD μ) (rF μ) (rS μ) (rC μ) Ho th) (fun u : MS => wM cI cZ y Lo Se Em gp gi am li dl (rK u) (rT u) (rE u) (rD u) (rF u) (rS u) (rC u) Ho (nI 0)) (fun u : MS => sameR μ u) sz (gOf gp gi am Lo Se Ef dl σ z0 m9) := by
  refine kEnter (cc := cX3_expected) (maxL := 3) (ret := some .int) (by decide +kernel) rfl (Nat.le_of_ble_eq_true rfl) ?_
  intro p e s m below meth c args hx hb hr hml hts hown hlocks hin hK hN A hA9 Q hQ9 hP hD hsz hS hA ls hl
  have hl : lv_has ls 3 [(0, .ref (y 0)), (1, .int (nI z0)), (2, .int (nI (m9 + 1)))] := hl
  have hi_X3 : ∀ w ∈ u_ws RX3 TX3 17, w ∈ wsX3_expected := by decide +kernel
  obtain ⟨H, hH9⟩ : ∃ H, H = s.heap := ⟨_, rfl⟩
  rw [← hH9] at hP ⊢
  have hS : va_S A s.heap H [] := by rw [hH9]; exact va_S.rf
  have hs9 := sameR_rf μ
  have hRc := hR
  have hkc := hk
  refine lv_aload_n hx hb dX3_expected_0 rfl (lv_at hl 0 rfl) ?_
  refine lv_iload_n hx hb dX3_expected_1 rfl (lv_at hl 1 rfl) ?_
  refine lv_iload_n hx hb dX3_expected_2 rfl (lv_at hl 2 rfl) ?_
  refine kCallW_i (W1 := wM cI cZ y Lo Se Em gp gi am li dl (rK μ) (rT μ) (rE μ) (rD μ) (rF μ) (rS μ) (rC μ) Ho (nI 0)) hD hS hA rfl (va_runV (As := [.int (nI z0), .int (nI (m9 + 1))]) (rest := []) ⟨hx, hb, hml, hown, hts⟩ (c_X3_asksIf_ok l D cI cZ cO cJ y Lo Se Em gp gi am li dl (rK μ) (rT μ) (rE μ) (rD μ) (rF μ) (rS μ) (rC μ) Ho th (nI z0) (nI (m9 + 1)) H.size (inR_nI (by omega) (by omega) (by decide)) (inR_nI (by omega) (by omega) (by decide))) (cwV (rm := rmX3_asksIf) 2 hts gX3_expected_X3_asksIf rfl rfl rfl (by decide +kernel) ⟨Nat.le_of_ble_eq_true rfl, Nat.le_of_ble_eq_true rfl⟩) (kPreVW hK hN hP hD (va_recv hK hP (ci := 3) (q0 := 0) rfl rfl)) rfl rfl hl.1 rfl (lv_room (Nat.le_of_ble_eq_true rfl)) dX3_expected_3 ⟨Nat.zero_le _, Nat.zero_le _⟩) (fun H locs hP hD hS => ?_)
  refine lv_if_eq (tgt := 19) hx hb dX3_expected_6 (by decide) (fun c9 => absurd c9 (by decide +kernel)) (fun _ => ?_)
  refine lv_aload_n hx hb dX3_expected_9 rfl (lv_at hl 0 rfl) ?_
  refine lv_iload_n hx hb dX3_expected_10 rfl (lv_at hl 1 rfl) ?_
  refine lv_iload_n hx hb dX3_expected_11 rfl (lv_at hl 2 rfl) ?_
  refine lv_iconst (v := (-1)) hx hb dX3_expected_12 (by decide +kernel) ?_
  refine kCallWP_i (S := MS) (W1 := fun u : MS => wM cI cZ y Lo Se Em gp gi am li dl (rK u) (rT u) (rE u) (rD u) (rF u) (rS u) (rC u) Ho (nI 0)) (P := fun u : MS => sameR μ u) hD hS hA (fun _ => rfl) (va_runV (As := [.int (nI z0), .int (nI (m9 + 1)), .int (-1)]) (rest := []) ⟨hx, hb, hml, hown, hts⟩ (c_X3_greatest_n l D cI cZ cO cJ y Lo Se Em gp gi am li dl μ Ho (nI 0) Ef σ z0 m9 H.size hSk hRc hkc (by omega) (by omega)) (cwV (rm := rmX3_greatest) 3 hts gX3_expected_X3_greatest rfl rfl rfl (by decide +kernel) ⟨Nat.le_of_ble_eq_true rfl, Nat.le_of_ble_eq_true rfl⟩) (kPreVW hK hN hP hD (va_recv hK hP (ci := 3) (q0 := 0) rfl rfl)) rfl rfl hl.1 rfl (lv_room (Nat.le_of_ble_eq_true rfl)) dX3_expected_13 ⟨Nat.zero_le _, Nat.zero_le _⟩) (fun u8 H locs hu8 hP hD hS => ?_)
  have hs9 := sameR_tr hs9 hu8
  have hRc := relX_same hRc hu8
  have hkc : rK u8 0 ≤ 100000 := by rw [hu8.1]; exact hkc
  refine lv_goto (tgt := 20) hx hb dX3_expected_16 (by decide) ?_
  subst hQ9
  subst hA9
  exact kRetP_i (S := MS) (W1 := fun u : MS => wM cI cZ y Lo Se Em gp gi am li dl (rK u) (rT u) (rE u) (rD u) (rF u) (rS u) (rC u) Ho (nI 0)) (P := fun u : MS => sameR μ u) (u8) (hs9) hx hb hr hlocks hP hS dX3_expected_20 rfl

abbrev rmX3_critical : Room := { frames := 5, cells := 0, slots := 0, locals := 124 }
set_option maxHeartbeats 4000000 in
set_option maxRecDepth 100000 in
/-- critical -/
theorem c_X3_critical_ok (l : Launch) (D : va_G) (cI cZ cO cJ : ClassId) (y : Nat → Nat) (Lo Se Em : Nat → Int32) (gp gi am li : Int32) (dl : Nat) (μ : MS) (Ho : Nat → Int32) (th : Int32) (Ef : Nat → Nat → Int32) (σ : HS) (z0 m9 : Nat) (sz : Nat) (hSk : SOK Lo Se Em Ef gp gi am dl) (hR : RelX 0 σ μ) (hk : rK μ 0 ≤ 100000) (hz0 : z0 < 6) (hm : m9 < 60) : kMP l yX3_critical wsX3_critical rmX3_critical D (kT cI cZ cO cJ) [.ref (y 0), .int (nI z0), .int (nI (m9 + 1))] (wM cI cZ y Lo Se Em gp gi am li dl (rK μ) (rT μ) (rE μ) (rD μ) (rF μ) (rS μ) (rC μ) Ho th) (fun u : MS => wM cI cZ y Lo Se Em gp gi am li dl (rK u) (rT u) (rE u) (rD u) (rF u) (rS u) (rC u) Ho (nI 0)) (fun u : MS => sameR μ u) sz ((crit (sF σ) (fun f => gOf gp gi am Lo Se Ef dl (hFail σ f) z0 m9) 8).1) := by
  refine kEnter (cc := cX3_critical) (maxL := 3) (ret := some .int) (by decide +kernel) rfl (Nat.le_of_ble_eq_true rfl) ?_
  intro p e s m below meth c args hx hb hr hml hts hown hlocks hin hK hN A hA9 Q hQ9 hP hD hsz hS hA ls hl
  have hl : lv_has ls 3 [(0, .ref (y 0)), (1, .int (nI z0)), (2, .int (nI (m9 + 1)))] := hl
  have hi_X3 : ∀ w ∈ u_ws RX3 TX3 17, w ∈ wsX3_critical := by decide +kernel
  obtain ⟨H, hH9⟩ : ∃ H, H = s.heap := ⟨_, rfl⟩
  rw [← hH9] at hP ⊢
  have hS : va_S A s.heap H [] := by rw [hH9]; exact va_S.rf
  have hs9 := sameR_rf μ
  have hRc := hR
  have hkc := hk
  refine lv_aload_n hx hb dX3_critical_0 rfl (lv_at hl 0 rfl) ?_
  refine lv_iload_n hx hb dX3_critical_1 rfl (lv_at hl 1 rfl) ?_
  refine lv_iload_n hx hb dX3_critical_2 rfl (lv_at hl 2 rfl) ?_
  refine kCallW_i (W1 := wM cI cZ y Lo Se Em gp gi am li dl (rK μ) (rT μ) (rE μ) (rD μ) (rF μ) (rS μ) (rC μ) Ho (nI 0)) hD hS hA rfl (va_runV (As := [.int (nI z0), .int (nI (m9 + 1))]) (rest := []) ⟨hx, hb, hml, hown, hts⟩ (c_X3_asksIf_ok l D cI cZ cO cJ y Lo Se Em gp gi am li dl (rK μ) (rT μ) (rE μ) (rD μ) (rF μ) (rS μ) (rC μ) Ho th (nI z0) (nI (m9 + 1)) H.size (inR_nI (by omega) (by omega) (by decide)) (inR_nI (by omega) (by omega) (by decide))) (cwV (rm := rmX3_asksIf) 2 hts gX3_critical_X3_asksIf rfl rfl rfl (by decide +kernel) ⟨Nat.le_of_ble_eq_true rfl, Nat.le_of_ble_eq_true rfl⟩) (kPreVW hK hN hP hD (va_recv hK hP (ci := 3) (q0 := 0) rfl rfl)) rfl rfl hl.1 rfl (lv_room (Nat.le_of_ble_eq_true rfl)) dX3_critical_3 ⟨Nat.zero_le _, Nat.zero_le _⟩) (fun H locs hP hD hS => ?_)
  refine lv_if_eq (tgt := 18) hx hb dX3_critical_6 (by decide) (fun c9 => absurd c9 (by decide +kernel)) (fun _ => ?_)
  refine lv_aload_n hx hb dX3_critical_9 rfl (lv_at hl 0 rfl) ?_
  refine lv_iload_n hx hb dX3_critical_10 rfl (lv_at hl 1 rfl) ?_
  refine lv_iload_n hx hb dX3_critical_11 rfl (lv_at hl 2 rfl) ?_
  refine kCallWP_i (S := MS) (W1 := fun u : MS => wM cI cZ y Lo Se Em gp gi am li dl (rK u) (rT u) (rE u) (rD u) (rF u) (rS u) (rC u) Ho (nI 0)) (P := fun u : MS => sameR μ u) hD hS hA (fun _ => rfl) (va_runV (As := [.int (nI z0), .int (nI (m9 + 1))]) (rest := []) ⟨hx, hb, hml, hown, hts⟩ (c_X3_worst l D cI cZ cO cJ y Lo Se Em gp gi am li dl μ Ho (nI 0) Ef σ z0 m9 H.size hSk hRc hkc (by omega) (by omega)) (cwV (rm := rmX3_worst) 2 hts gX3_critical_X3_worst rfl rfl rfl (by decide +kernel) ⟨Nat.le_of_ble_eq_true rfl, Nat.le_of_ble_eq_true rfl⟩) (kPreVW hK hN hP hD (va_recv hK hP (ci := 3) (q0 := 0) rfl rfl)) rfl rfl hl.1 rfl (lv_room (Nat.le_of_ble_eq_true rfl)) dX3_critical_12 ⟨Nat.zero_le _, Nat.zero_le _⟩) (fun u7 H locs hu7 hP hD hS => ?_)
  have hs9 := sameR_tr hs9 hu7
  have hRc := relX_same hRc hu7
  have hkc : rK u7 0 ≤ 100000 := by rw [hu7.1]; exact hkc
  refine lv_goto (tgt := 19) hx hb dX3_critical_15 (by decide) ?_
  subst hQ9
  subst hA9
  exact kRetP_i (S := MS) (W1 := fun u : MS => wM cI cZ y Lo Se Em gp gi am li dl (rK u) (rT u) (rE u) (rD u) (rF u) (rS u) (rC u) Ho (nI 0)) (P := fun u : MS => sameR μ u) (u7) (hs9) hx hb hr hlocks hP hS dX3_critical_19 rfl

abbrev rmX3_margin : Room := { frames := 5, cells := 0, slots := 0, locals := 124 }
set_option maxHeartbeats 4000000 in
set_option maxRecDepth 100000 in
/-- margin -/
theorem c_X3_margin_ok (l : Launch) (D : va_G) (cI cZ cO cJ : ClassId) (y : Nat → Nat) (Lo Se Em : Nat → Int32) (gp gi am li : Int32) (dl : Nat) (μ : MS) (Ho : Nat → Int32) (th : Int32) (Ef : Nat → Nat → Int32) (σ : HS) (z0 m9 : Nat) (sz : Nat) (hSk : SOK Lo Se Em Ef gp gi am dl) (hR : RelX 0 σ μ) (hk : rK μ 0 ≤ 100000) (hz0 : z0 < 6) (hm : m9 < 60) : kMP l yX3_margin wsX3_margin rmX3_margin D (kT cI cZ cO cJ) [.ref (y 0), .int (nI z0), .int (nI (m9 + 1))] (wM cI cZ y Lo Se Em gp gi am li dl (rK μ) (rT μ) (rE μ) (rD μ) (rF μ) (rS μ) (rC μ) Ho th) (fun u : MS => wM cI cZ y Lo Se Em gp gi am li dl (rK u) (rT u) (rE u) (rD u) (rF u) (rS u) (rC u) Ho (nI 0)) (fun u : MS => sameR μ u) sz (li - gAny gp gi am Lo Se Ef dl σ z0 m9 (crit (sF σ) (fun f => gOf gp gi am Lo Se Ef dl (hFail σ f) z0 m9) 8).1) := by
  refine kEnter (cc := cX3_margin) (maxL := 3) (ret := some .int) (by decide +kernel) rfl (Nat.le_of_ble_eq_true rfl) ?_
  intro p e s m below meth c args hx hb hr hml hts hown hlocks hin hK hN A hA9 Q hQ9 hP hD hsz hS hA ls hl
  have hl : lv_has ls 3 [(0, .ref (y 0)), (1, .int (nI z0)), (2, .int (nI (m9 + 1)))] := hl
  have hi_X3 : ∀ w ∈ u_ws RX3 TX3 17, w ∈ wsX3_margin := by decide +kernel
  obtain ⟨H, hH9⟩ : ∃ H, H = s.heap := ⟨_, rfl⟩
  rw [← hH9] at hP ⊢
  have hS : va_S A s.heap H [] := by rw [hH9]; exact va_S.rf
  have hs9 := sameR_rf μ
  have hRc := hR
  have hkc := hk
  refine lv_aload_n hx hb dX3_margin_0 rfl (lv_at hl 0 rfl) ?_
  refine lv_iload_n hx hb dX3_margin_1 rfl (lv_at hl 1 rfl) ?_
  refine lv_iload_n hx hb dX3_margin_2 rfl (lv_at hl 2 rfl) ?_
  refine kCallW_i (W1 := wM cI cZ y Lo Se Em gp gi am li dl (rK μ) (rT μ) (rE μ) (rD μ) (rF μ) (rS μ) (rC μ) Ho (nI 0)) hD hS hA rfl (va_runV (As := [.int (nI z0), .int (nI (m9 + 1))]) (rest := []) ⟨hx, hb, hml, hown, hts⟩ (c_X3_asksIf_ok l D cI cZ cO cJ y Lo Se Em gp gi am li dl (rK μ) (rT μ) (rE μ) (rD μ) (rF μ) (rS μ) (rC μ) Ho th (nI z0) (nI (m9 + 1)) H.size (inR_nI (by omega) (by omega) (by decide)) (inR_nI (by omega) (by omega) (by decide))) (cwV (rm := rmX3_asksIf) 2 hts gX3_margin_X3_asksIf rfl rfl rfl (by decide +kernel) ⟨Nat.le_of_ble_eq_true rfl, Nat.le_of_ble_eq_true rfl⟩) (kPreVW hK hN hP hD (va_recv hK hP (ci := 3) (q0 := 0) rfl rfl)) rfl rfl hl.1 rfl (lv_room (Nat.le_of_ble_eq_true rfl)) dX3_margin_3 ⟨Nat.zero_le _, Nat.zero_le _⟩) (fun H locs hP hD hS => ?_)
  refine lv_if_eq (tgt := 29) hx hb dX3_margin_6 (by decide) (fun c9 => absurd c9 (by decide +kernel)) (fun _ => ?_)
  refine lv_aload_n hx hb dX3_margin_9 rfl (lv_at hl 0 rfl) ?_
  refine va_get (D := D) (ci := 3) (v := .int li) (C := RX3) (T := TX3) (N := 17) hx hb hts hi_X3 hown hK hP 0 rfl rfl 6 (by decide) (hts (.fieldLink RX3 29 "ColdaisleModel" "limit" "I") (by decide +kernel)) (fun _ h9 => h9) rfl dX3_margin_10 ?_
  refine lv_aload_n hx hb dX3_margin_13 rfl (lv_at hl 0 rfl) ?_
  refine lv_iload_n hx hb dX3_margin_14 rfl (lv_at hl 1 rfl) ?_
  refine lv_iload_n hx hb dX3_margin_15 rfl (lv_at hl 2 rfl) ?_
  refine lv_aload_n hx hb dX3_margin_16 rfl (lv_at hl 0 rfl) ?_
  refine lv_iload_n hx hb dX3_margin_17 rfl (lv_at hl 1 rfl) ?_
  refine lv_iload_n hx hb dX3_margin_18 rfl (lv_at hl 2 rfl) ?_
  refine kCallWP_i (S := MS) (W1 := fun u : MS => wM cI cZ y Lo Se Em gp gi am li dl (rK u) (rT u) (rE u) (rD u) (rF u) (rS u) (rC u) Ho (nI 0)) (P := fun u : MS => sameR μ u) hD hS hA (fun _ => rfl) (va_runV (As := [.int (nI z0), .int (nI (m9 + 1))]) (rest := [.int (nI (m9 + 1)), .int (nI z0), .ref (y 0), .int li]) ⟨hx, hb, hml, hown, hts⟩ (c_X3_worst l D cI cZ cO cJ y Lo Se Em gp gi am li dl μ Ho (nI 0) Ef σ z0 m9 H.size hSk hRc hkc (by omega) (by omega)) (cwV (rm := rmX3_worst) 2 hts gX3_margin_X3_worst rfl rfl rfl (by decide +kernel) ⟨Nat.le_of_ble_eq_true rfl, Nat.le_of_ble_eq_true rfl⟩) (kPreVW hK hN hP hD (va_recv hK hP (ci := 3) (q0 := 0) rfl rfl)) rfl rfl hl.1 rfl (lv_room (Nat.le_of_ble_eq_true rfl)) dX3_margin_19 ⟨Nat.zero_le _, Nat.zero_le _⟩) (fun u7 H locs hu7 hP hD hS => ?_)
  have hs9 := sameR_tr hs9 hu7
  have hRc := relX_same hRc hu7
  have hkc : rK u7 0 ≤ 100000 := by rw [hu7.1]; exact hkc
  rcases crit_or (sF σ) (fun f => gOf gp gi am Lo Se Ef dl (hFail σ f) z0 m9) 8 with hc9 | ⟨f, hf, hc9⟩
  · rw [hc9]
    refine kCallWP_i (S := MS) (W1 := fun u : MS => wM cI cZ y Lo Se Em gp gi am li dl (rK u) (rT u) (rE u) (rD u) (rF u) (rS u) (rC u) Ho (nI 0)) (P := fun u : MS => sameR u7 u) hD hS hA (fun _ => rfl) (va_runV (As := [.int (nI z0), .int (nI (m9 + 1)), .int (-1)]) (rest := [.int li]) ⟨hx, hb, hml, hown, hts⟩ (c_X3_greatest_n l D cI cZ cO cJ y Lo Se Em gp gi am li dl u7 Ho (nI 0) Ef σ z0 m9 H.size hSk hRc hkc (by omega) (by omega)) (cwV (rm := rmX3_greatest) 3 hts gX3_margin_X3_greatest rfl rfl rfl (by decide +kernel) ⟨Nat.le_of_ble_eq_true rfl, Nat.le_of_ble_eq_true rfl⟩) (kPreVW hK hN hP hD (va_recv hK hP (ci := 3) (q0 := 0) rfl rfl)) rfl rfl hl.1 rfl (lv_room (Nat.le_of_ble_eq_true rfl)) dX3_margin_22 ⟨Nat.zero_le _, Nat.zero_le _⟩) (fun u8 H locs hu8 hP hD hS => ?_)
    have hs9 := sameR_tr hs9 hu8
    have hRc := relX_same hRc hu8
    have hkc : rK u8 0 ≤ 100000 := by rw [hu8.1]; exact hkc
    refine lv_isub hx hb dX3_margin_25 ?_
    refine lv_goto (tgt := 30) hx hb dX3_margin_26 (by decide) ?_
    subst hQ9
    subst hA9
    exact kRetP_i (S := MS) (W1 := fun u : MS => wM cI cZ y Lo Se Em gp gi am li dl (rK u) (rT u) (rE u) (rD u) (rF u) (rS u) (rC u) Ho (nI 0)) (P := fun u : MS => sameR μ u) (u8) (hs9) hx hb hr hlocks hP hS dX3_margin_30 (congrArg (fun y => li - y) (Eq.symm (by rw [hc9]; exact if_pos rfl)))
  · rw [hc9]
    refine kCallWP_i (S := MS) (W1 := fun u : MS => wM cI cZ y Lo Se Em gp gi am li dl (rK u) (rT u) (rE u) (rD u) (rF u) (rS u) (rC u) Ho (nI 0)) (P := fun u : MS => sameR u7 u) hD hS hA (fun _ => rfl) (va_runV (As := [.int (nI z0), .int (nI (m9 + 1)), .int (nI f)]) (rest := [.int li]) ⟨hx, hb, hml, hown, hts⟩ (c_X3_greatest_f l D cI cZ cO cJ y Lo Se Em gp gi am li dl u7 Ho (nI 0) Ef σ z0 m9 f H.size hSk hRc hkc (by omega) (by omega) (by omega)) (cwV (rm := rmX3_greatest) 3 hts gX3_margin_X3_greatest rfl rfl rfl (by decide +kernel) ⟨Nat.le_of_ble_eq_true rfl, Nat.le_of_ble_eq_true rfl⟩) (kPreVW hK hN hP hD (va_recv hK hP (ci := 3) (q0 := 0) rfl rfl)) rfl rfl hl.1 rfl (lv_room (Nat.le_of_ble_eq_true rfl)) dX3_margin_22 ⟨Nat.zero_le _, Nat.zero_le _⟩) (fun u8 H locs hu8 hP hD hS => ?_)
    have hs9 := sameR_tr hs9 hu8
    have hRc := relX_same hRc hu8
    have hkc : rK u8 0 ≤ 100000 := by rw [hu8.1]; exact hkc
    refine lv_isub hx hb dX3_margin_25 ?_
    refine lv_goto (tgt := 30) hx hb dX3_margin_26 (by decide) ?_
    subst hQ9
    subst hA9
    exact kRetP_i (S := MS) (W1 := fun u : MS => wM cI cZ y Lo Se Em gp gi am li dl (rK u) (rT u) (rE u) (rD u) (rF u) (rS u) (rC u) Ho (nI 0)) (P := fun u : MS => sameR μ u) (u8) (hs9) hx hb hr hlocks hP hS dX3_margin_30 (congrArg (fun y => li - y) (Eq.symm (by rw [hc9]; exact gAny_f (by omega))))

set_option maxHeartbeats 4000000 in
set_option maxRecDepth 100000 in
/-- expected_bad -/
theorem c_X3_expected_bad (l : Launch) (D : va_G) (cI cZ cO cJ : ClassId) (y : Nat → Nat) (Lo Se Ef : Nat → Int32) (gp gi am li : Int32) (dl : Nat) (ck : Nat → Nat) (T Su Dm F Sp C Ho : Nat → Int32) (th : Int32) (v w : Int32) (sz : Nat) (h : ¬ (inR v (nI 0) (nI 5) ∧ inR w (nI 1) (nI 60))) : kMi l yX3_expected wsX3_expected rmX3_expected D (kT cI cZ cO cJ) [.ref (y 0), .int v, .int w] (wM cI cZ y Lo Se Ef gp gi am li dl ck T Su Dm F Sp C Ho th) (wM cI cZ y Lo Se Ef gp gi am li dl ck T Su Dm F Sp C Ho (nI 1)) sz (nI 0) := by
  refine kEnter (cc := cX3_expected) (maxL := 3) (ret := some .int) (by decide +kernel) rfl (Nat.le_of_ble_eq_true rfl) ?_
  intro p e s m below meth c args hx hb hr hml hts hown hlocks hin hK hN A hA9 Q hQ9 hP hD hsz hS hA ls hl
  have hl : lv_has ls 3 [(0, .ref (y 0)), (1, .int v), (2, .int w)] := hl
  have hi_X3 : ∀ w ∈ u_ws RX3 TX3 17, w ∈ wsX3_expected := by decide +kernel
  obtain ⟨H, hH9⟩ : ∃ H, H = s.heap := ⟨_, rfl⟩
  rw [← hH9] at hP ⊢
  have hS : va_S A s.heap H [] := by rw [hH9]; exact va_S.rf
  refine lv_aload_n hx hb dX3_expected_0 rfl (lv_at hl 0 rfl) ?_
  refine lv_iload_n hx hb dX3_expected_1 rfl (lv_at hl 1 rfl) ?_
  refine lv_iload_n hx hb dX3_expected_2 rfl (lv_at hl 2 rfl) ?_
  refine kCallW_i (W1 := wM cI cZ y Lo Se Ef gp gi am li dl ck T Su Dm F Sp C Ho (nI 1)) hD hS hA rfl (va_runV (As := [.int v, .int w]) (rest := []) ⟨hx, hb, hml, hown, hts⟩ (c_X3_asksIf_bad l D cI cZ cO cJ y Lo Se Ef gp gi am li dl ck T Su Dm F Sp C Ho th v w H.size h) (cwV (rm := rmX3_asksIf) 2 hts gX3_expected_X3_asksIf rfl rfl rfl (by decide +kernel) ⟨Nat.le_of_ble_eq_true rfl, Nat.le_of_ble_eq_true rfl⟩) (kPreVW hK hN hP hD (va_recv hK hP (ci := 3) (q0 := 0) rfl rfl)) rfl rfl hl.1 rfl (lv_room (Nat.le_of_ble_eq_true rfl)) dX3_expected_3 ⟨Nat.zero_le _, Nat.zero_le _⟩) (fun H locs hP hD hS => ?_)
  refine lv_if_eq (tgt := 19) hx hb dX3_expected_6 (by decide) (fun _ => ?_) (fun c9 => absurd (by decide +kernel) c9)
  refine lv_iconst (v := nI 0) hx hb dX3_expected_19 (by decide +kernel) ?_
  subst hQ9
  subst hA9
  exact kRet_i hx hb hr hlocks hP hS dX3_expected_20 rfl

set_option maxHeartbeats 4000000 in
set_option maxRecDepth 100000 in
/-- critical_bad -/
theorem c_X3_critical_bad (l : Launch) (D : va_G) (cI cZ cO cJ : ClassId) (y : Nat → Nat) (Lo Se Ef : Nat → Int32) (gp gi am li : Int32) (dl : Nat) (ck : Nat → Nat) (T Su Dm F Sp C Ho : Nat → Int32) (th : Int32) (v w : Int32) (sz : Nat) (h : ¬ (inR v (nI 0) (nI 5) ∧ inR w (nI 1) (nI 60))) : kMi l yX3_critical wsX3_critical rmX3_critical D (kT cI cZ cO cJ) [.ref (y 0), .int v, .int w] (wM cI cZ y Lo Se Ef gp gi am li dl ck T Su Dm F Sp C Ho th) (wM cI cZ y Lo Se Ef gp gi am li dl ck T Su Dm F Sp C Ho (nI 1)) sz (nI 0) := by
  refine kEnter (cc := cX3_critical) (maxL := 3) (ret := some .int) (by decide +kernel) rfl (Nat.le_of_ble_eq_true rfl) ?_
  intro p e s m below meth c args hx hb hr hml hts hown hlocks hin hK hN A hA9 Q hQ9 hP hD hsz hS hA ls hl
  have hl : lv_has ls 3 [(0, .ref (y 0)), (1, .int v), (2, .int w)] := hl
  have hi_X3 : ∀ w ∈ u_ws RX3 TX3 17, w ∈ wsX3_critical := by decide +kernel
  obtain ⟨H, hH9⟩ : ∃ H, H = s.heap := ⟨_, rfl⟩
  rw [← hH9] at hP ⊢
  have hS : va_S A s.heap H [] := by rw [hH9]; exact va_S.rf
  refine lv_aload_n hx hb dX3_critical_0 rfl (lv_at hl 0 rfl) ?_
  refine lv_iload_n hx hb dX3_critical_1 rfl (lv_at hl 1 rfl) ?_
  refine lv_iload_n hx hb dX3_critical_2 rfl (lv_at hl 2 rfl) ?_
  refine kCallW_i (W1 := wM cI cZ y Lo Se Ef gp gi am li dl ck T Su Dm F Sp C Ho (nI 1)) hD hS hA rfl (va_runV (As := [.int v, .int w]) (rest := []) ⟨hx, hb, hml, hown, hts⟩ (c_X3_asksIf_bad l D cI cZ cO cJ y Lo Se Ef gp gi am li dl ck T Su Dm F Sp C Ho th v w H.size h) (cwV (rm := rmX3_asksIf) 2 hts gX3_critical_X3_asksIf rfl rfl rfl (by decide +kernel) ⟨Nat.le_of_ble_eq_true rfl, Nat.le_of_ble_eq_true rfl⟩) (kPreVW hK hN hP hD (va_recv hK hP (ci := 3) (q0 := 0) rfl rfl)) rfl rfl hl.1 rfl (lv_room (Nat.le_of_ble_eq_true rfl)) dX3_critical_3 ⟨Nat.zero_le _, Nat.zero_le _⟩) (fun H locs hP hD hS => ?_)
  refine lv_if_eq (tgt := 18) hx hb dX3_critical_6 (by decide) (fun _ => ?_) (fun c9 => absurd (by decide +kernel) c9)
  refine lv_iconst (v := nI 0) hx hb dX3_critical_18 (by decide +kernel) ?_
  subst hQ9
  subst hA9
  exact kRet_i hx hb hr hlocks hP hS dX3_critical_19 rfl

set_option maxHeartbeats 4000000 in
set_option maxRecDepth 100000 in
/-- margin_bad -/
theorem c_X3_margin_bad (l : Launch) (D : va_G) (cI cZ cO cJ : ClassId) (y : Nat → Nat) (Lo Se Ef : Nat → Int32) (gp gi am li : Int32) (dl : Nat) (ck : Nat → Nat) (T Su Dm F Sp C Ho : Nat → Int32) (th : Int32) (v w : Int32) (sz : Nat) (h : ¬ (inR v (nI 0) (nI 5) ∧ inR w (nI 1) (nI 60))) : kMi l yX3_margin wsX3_margin rmX3_margin D (kT cI cZ cO cJ) [.ref (y 0), .int v, .int w] (wM cI cZ y Lo Se Ef gp gi am li dl ck T Su Dm F Sp C Ho th) (wM cI cZ y Lo Se Ef gp gi am li dl ck T Su Dm F Sp C Ho (nI 1)) sz (nI 0) := by
  refine kEnter (cc := cX3_margin) (maxL := 3) (ret := some .int) (by decide +kernel) rfl (Nat.le_of_ble_eq_true rfl) ?_
  intro p e s m below meth c args hx hb hr hml hts hown hlocks hin hK hN A hA9 Q hQ9 hP hD hsz hS hA ls hl
  have hl : lv_has ls 3 [(0, .ref (y 0)), (1, .int v), (2, .int w)] := hl
  have hi_X3 : ∀ w ∈ u_ws RX3 TX3 17, w ∈ wsX3_margin := by decide +kernel
  obtain ⟨H, hH9⟩ : ∃ H, H = s.heap := ⟨_, rfl⟩
  rw [← hH9] at hP ⊢
  have hS : va_S A s.heap H [] := by rw [hH9]; exact va_S.rf
  refine lv_aload_n hx hb dX3_margin_0 rfl (lv_at hl 0 rfl) ?_
  refine lv_iload_n hx hb dX3_margin_1 rfl (lv_at hl 1 rfl) ?_
  refine lv_iload_n hx hb dX3_margin_2 rfl (lv_at hl 2 rfl) ?_
  refine kCallW_i (W1 := wM cI cZ y Lo Se Ef gp gi am li dl ck T Su Dm F Sp C Ho (nI 1)) hD hS hA rfl (va_runV (As := [.int v, .int w]) (rest := []) ⟨hx, hb, hml, hown, hts⟩ (c_X3_asksIf_bad l D cI cZ cO cJ y Lo Se Ef gp gi am li dl ck T Su Dm F Sp C Ho th v w H.size h) (cwV (rm := rmX3_asksIf) 2 hts gX3_margin_X3_asksIf rfl rfl rfl (by decide +kernel) ⟨Nat.le_of_ble_eq_true rfl, Nat.le_of_ble_eq_true rfl⟩) (kPreVW hK hN hP hD (va_recv hK hP (ci := 3) (q0 := 0) rfl rfl)) rfl rfl hl.1 rfl (lv_room (Nat.le_of_ble_eq_true rfl)) dX3_margin_3 ⟨Nat.zero_le _, Nat.zero_le _⟩) (fun H locs hP hD hS => ?_)
  refine lv_if_eq (tgt := 29) hx hb dX3_margin_6 (by decide) (fun _ => ?_) (fun c9 => absurd (by decide +kernel) c9)
  refine lv_iconst (v := nI 0) hx hb dX3_margin_29 (by decide +kernel) ?_
  subst hQ9
  subst hA9
  exact kRet_i hx hb hr hlocks hP hS dX3_margin_30 rfl

abbrev rmX3_pass : Room := { frames := 3, cells := 0, slots := 0, locals := 72 }
set_option maxHeartbeats 4000000 in
set_option maxRecDepth 100000 in
/-- pass -/
theorem c_X3_pass_ok (l : Launch) (D : va_G) (cI cZ cO cJ : ClassId) (y : Nat → Nat) (Lo Se Em : Nat → Int32) (gp gi am li : Int32) (dl : Nat) (μ : MS) (Ho : Nat → Int32) (th : Int32) (Ef : Nat → Nat → Int32) (σ : HS) (nm : Nat) (Hc : Nat → Int32) (sz : Nat) (hSk : SOK Lo Se Em Ef gp gi am dl) (hR : RelX 0 σ μ) (h1 : 0 < nm) (h2 : nm ≤ 300) (hc : rK μ 0 + nm ≤ 100000) (hHc : ∀ j, j < 6 → Ho j = Hc j) : kMP l yX3_pass wsX3_pass rmX3_pass D (kT cI cZ cO cJ) [.ref (y 0), .int (nI nm)] (wM cI cZ y Lo Se Em gp gi am li dl (rK μ) (rT μ) (rE μ) (rD μ) (rF μ) (rS μ) (rC μ) Ho th) (fun u : MS × (Nat → Int32) => wM cI cZ y Lo Se Em gp gi am li dl (rK u.1) (rT u.1) (rE u.1) (rD u.1) (rF u.1) (rS u.1) (rC u.1) u.2 (nI 0)) (fun u : MS × (Nat → Int32) => RelX 0 (hRun gp gi am Lo Se Ef dl nm σ) u.1 ∧ rK u.1 0 = rK μ 0 + nm ∧ ∀ j, j < 6 → u.2 j = pHo li (fun k => sT (hRun gp gi am Lo Se Ef dl k σ)) Hc nm j) sz (pSum li (fun k => sT (hRun gp gi am Lo Se Ef dl k σ)) nm) := by
  refine kEnter (cc := cX3_pass) (maxL := 5) (ret := some .int) (by decide +kernel) rfl (Nat.le_of_ble_eq_true rfl) ?_
  intro p e s m below meth c args hx hb hr hml hts hown hlocks hin hK hN A hA9 Q hQ9 hP hD hsz hS hA ls hl
  have hl : lv_has ls 5 [(0, .ref (y 0)), (1, .int (nI nm))] := hl
  have hi_X3 : ∀ w ∈ u_ws RX3 TX3 17, w ∈ wsX3_pass := by decide +kernel
  obtain ⟨H, hH9⟩ : ∃ H, H = s.heap := ⟨_, rfl⟩
  rw [← hH9] at hP ⊢
  have hS : va_S A s.heap H [] := by rw [hH9]; exact va_S.rf
  refine lv_aload_n hx hb dX3_pass_0 rfl (lv_at hl 0 rfl) ?_
  refine lv_iload_n hx hb dX3_pass_1 rfl (lv_at hl 1 rfl) ?_
  refine lv_iconst (v := nI 1) hx hb dX3_pass_2 (by decide +kernel) ?_
  refine lv_sipush (v := nI 300) hx hb dX3_pass_3 (by decide +kernel) ?_
  refine kCall_i (W0 := []) (W1 := []) hP hD hS hA [] rfl rfl (va_runS (As := [.int (nI nm), .int (nI 1), .int (nI 300)]) (rest := [.ref (y 0)]) ⟨hx, hb, hml, hown, hts⟩ (c_X3_isIn_ok l D cI cZ cO cJ (nI nm) (nI 1) (nI 300) H.size (inR_nI (by omega) (by omega) (by decide))) (va_cwS (rm := rmX3_isIn) 3 hts gX3_pass_X3_isIn rfl rfl rfl (by decide +kernel) ⟨Nat.le_of_ble_eq_true rfl, Nat.le_of_ble_eq_true rfl⟩) (kPreS hK hN hP hD [] rfl rfl) rfl rfl hl.1 rfl (lv_room (Nat.le_of_ble_eq_true rfl)) dX3_pass_6 ⟨Nat.zero_le _, Nat.zero_le _⟩) (fun H locs hP hD hS => ?_)
  have hP : va_P D vwCl (wM cI cZ y Lo Se Em gp gi am li dl (rK μ) (rT μ) (rE μ) (rD μ) (rF μ) (rS μ) (rC μ) Ho th) H := hP
  have hD : va_D A (wM cI cZ y Lo Se Em gp gi am li dl (rK μ) (rT μ) (rE μ) (rD μ) (rF μ) (rS μ) (rC μ) Ho th) := hD
  refine lv_if_ne (tgt := 16) hx hb dX3_pass_9 (by decide) (fun _ => ?_) (fun c9 => absurd c9 (by decide +kernel))
  refine lv_aload_n hx hb dX3_pass_16 rfl (lv_at hl 0 rfl) ?_
  refine va_get (D := D) (ci := 3) (v := .ref (y 4)) (C := RX3) (T := TX3) (N := 17) hx hb hts hi_X3 hown hK hP 0 rfl rfl 8 (by decide) (hts (.fieldLink RX3 35 "ColdaisleModel" "clocks" "[I") (by decide +kernel)) (fun _ h9 => h9) rfl dX3_pass_17 ?_
  refine lv_iconst (v := nI 0) hx hb dX3_pass_20 (by decide +kernel) ?_
  refine k_iald hx hb hK hP 4 0 rfl rfl (i := 0) (by decide) (by decide) dX3_pass_21 ?_
  refine k_as rfl ?_
  refine lv_iload_n hx hb dX3_pass_22 rfl (lv_at hl 1 rfl) ?_
  refine lv_iadd hx hb dX3_pass_23 ?_
  refine k_as (nI_add _ _) ?_
  refine lv_ldc hx hb hown (hts (.constant RX3 102 (100000)) (by decide +kernel)) dX3_pass_24 ?_
  refine k_as (y := nI 100000) (by decide +kernel) ?_
  refine lv_icmp_le (tgt := 33) hx hb dX3_pass_26 (by decide) (fun _ => ?_) (fun c9 => absurd (nI_le hc (by decide)) c9)
  refine lv_iconst (v := nI 0) hx hb dX3_pass_33 (by decide +kernel) ?_
  refine kCallW_i (W1 := wM cI cZ y Lo Se Em gp gi am li dl (rK μ) (rT μ) (rE μ) (rD μ) (rF μ) (rS μ) (rC μ) Ho (nI 0)) hD hS hA rfl (va_runV (As := [.int (nI 0)]) (rest := []) ⟨hx, hb, hml, hown, hts⟩ (c_X3_goes_0 l D cI cZ cO cJ y Lo Se Em gp gi am li dl (rK μ) (rT μ) (rE μ) (rD μ) (rF μ) (rS μ) (rC μ) Ho th (nI 0) H.size (by decide +kernel)) (cwV (rm := rmX3_goes) 1 hts gX3_pass_X3_goes rfl rfl rfl (by decide +kernel) ⟨Nat.le_of_ble_eq_true rfl, Nat.le_of_ble_eq_true rfl⟩) (kPreVW hK hN hP hD (va_recv hK hP (ci := 3) (q0 := 0) rfl rfl)) rfl rfl hl.1 rfl (lv_room (Nat.le_of_ble_eq_true rfl)) dX3_pass_34 ⟨Nat.zero_le _, Nat.zero_le _⟩) (fun H locs hP hD hS => ?_)
  refine lv_if_ne (tgt := 42) hx hb dX3_pass_37 (by decide) (fun _ => ?_) (fun c9 => absurd c9 (by decide +kernel))
  refine lv_iconst (v := nI 0) hx hb dX3_pass_42 (by decide +kernel) ?_
  refine lv_istore_n (lv' := [(2, .int (nI 0)), (0, .ref (y 0)), (1, .int (nI nm))]) hx hb dX3_pass_43 rfl hl (by decide) rfl (fun ls hl => ?_)
  refine lv_iconst (v := nI 0) hx hb dX3_pass_44 (by decide +kernel) ?_
  refine lv_istore_n (lv' := [(3, .int (nI 0)), (2, .int (nI 0)), (0, .ref (y 0)), (1, .int (nI nm))]) hx hb dX3_pass_45 rfl hl (by decide) rfl (fun ls hl => ?_)
  have lp : ∀ (n z : Nat), z + n = nm → ∀ (ν : MS) (Hk : Nat → Int32), RelX 0 (hRun gp gi am Lo Se Ef dl z σ) ν → rK ν 0 = rK μ 0 + z → (∀ j, j < 6 → Hk j = pHo li (fun k => sT (hRun gp gi am Lo Se Ef dl k σ)) Hc z j) → ∀ (H : Heap) (locs : List Loc), va_P D vwCl (wM cI cZ y Lo Se Em gp gi am li dl (rK ν) (rT ν) (rE ν) (rD ν) (rF ν) (rS ν) (rC ν) Hk (nI 0)) H → va_D A (wM cI cZ y Lo Se Em gp gi am li dl (rK ν) (rT ν) (rE ν) (rD ν) (rF ν) (rS ν) (rC ν) Hk (nI 0)) → va_S A s.heap H locs → ∀ ls : Array Slot, lv_has ls 5 [(0, .ref (y 0)), (1, .int (nI nm)), (2, .int (pSum li (fun k => sT (hRun gp gi am Lo Se Ef dl k σ)) z)), (3, .int (nI z))] → W p l e rmX3_pass s m args below meth c H locs 0 0 Q (F0 m 46 ls []) := by
    intro n
    induction n with
    | zero =>
      intro z hz ν Hk hR9 hk9 hH9x H locs hP hD hS ls hl
      have hz9 : nm = z := by omega
      subst hz9
      refine lv_iload_n hx hb dX3_pass_46 rfl (lv_at hl 3 rfl) ?_
      refine lv_iload_n hx hb dX3_pass_47 rfl (lv_at hl 1 rfl) ?_
      refine lv_icmp_ge (tgt := 129) hx hb dX3_pass_48 (by decide) (fun _ => ?_) (fun c9 => absurd (nI_le (Nat.le_refl _) (by omega)) c9)
      refine lv_iload_n hx hb dX3_pass_129 rfl (lv_at hl 2 rfl) ?_
      subst hQ9
      subst hA9
      exact kRetP_i (S := MS × (Nat → Int32)) (W1 := fun u : MS × (Nat → Int32) => wM cI cZ y Lo Se Em gp gi am li dl (rK u.1) (rT u.1) (rE u.1) (rD u.1) (rF u.1) (rS u.1) (rC u.1) u.2 (nI 0)) (P := fun u : MS × (Nat → Int32) => RelX 0 (hRun gp gi am Lo Se Ef dl nm σ) u.1 ∧ rK u.1 0 = rK μ 0 + nm ∧ ∀ j, j < 6 → u.2 j = pHo li (fun k => sT (hRun gp gi am Lo Se Ef dl k σ)) Hc nm j) ((ν, Hk)) (⟨hR9, hk9, hH9x⟩) hx hb hr hlocks hP hS dX3_pass_130 rfl
    | succ n ih =>
      intro z hz ν Hk hR9 hk9 hH9x H locs hP hD hS ls hl
      have hzb : z < nm := by omega
      refine lv_iload_n hx hb dX3_pass_46 rfl (lv_at hl 3 rfl) ?_
      refine lv_iload_n hx hb dX3_pass_47 rfl (lv_at hl 1 rfl) ?_
      refine lv_icmp_ge (tgt := 129) hx hb dX3_pass_48 (by decide) (fun c9 => absurd c9 (nI_ge hzb (by omega))) (fun _ => ?_)
      refine lv_aload_n hx hb dX3_pass_51 rfl (lv_at hl 0 rfl) ?_
      refine lv_iconst (v := nI 0) hx hb dX3_pass_52 (by decide +kernel) ?_
      refine kCallW_v (W1 := wM cI cZ y Lo Se Em gp gi am li dl (rK (qStep 0 gp gi am Lo Se Em dl ν)) (rT (qStep 0 gp gi am Lo Se Em dl ν)) (rE (qStep 0 gp gi am Lo Se Em dl ν)) (rD (qStep 0 gp gi am Lo Se Em dl ν)) (rF (qStep 0 gp gi am Lo Se Em dl ν)) (rS (qStep 0 gp gi am Lo Se Em dl ν)) (rC (qStep 0 gp gi am Lo Se Em dl ν)) Hk (nI 0)) hD hS hA rfl (va_runV (As := [.int (nI 0)]) (rest := []) ⟨hx, hb, hml, hown, hts⟩ (c_X3_minute l D cI cZ cO cJ y Lo Se Em gp gi am li dl (rK ν) (rT ν) (rE ν) (rD ν) (rF ν) (rS ν) (rC ν) Hk (nI 0) 0 H.size (by decide) (by omega) hSk.2.2.2.2.2.2.1) (cwV (rm := rmX3_minute) 1 hts gX3_pass_X3_minute rfl rfl rfl (by decide +kernel) ⟨Nat.le_of_ble_eq_true rfl, Nat.le_of_ble_eq_true rfl⟩) (kPreVW hK hN hP hD (va_recv hK hP (ci := 3) (q0 := 0) rfl rfl)) rfl rfl hl.1 rfl (lv_room (Nat.le_of_ble_eq_true rfl)) dX3_pass_53 ⟨Nat.zero_le _, Nat.zero_le _⟩) (fun H locs hP hD hS => ?_)
      have hP : va_P D vwCl (wM cI cZ y Lo Se Em gp gi am li dl (rK (qStep 0 gp gi am Lo Se Em dl ν)) (rT (qStep 0 gp gi am Lo Se Em dl ν)) (rE (qStep 0 gp gi am Lo Se Em dl ν)) (rD (qStep 0 gp gi am Lo Se Em dl ν)) (rF (qStep 0 gp gi am Lo Se Em dl ν)) (rS (qStep 0 gp gi am Lo Se Em dl ν)) (rC (qStep 0 gp gi am Lo Se Em dl ν)) Hk (nI 0)) H := hP
      have hD : va_D A (wM cI cZ y Lo Se Em gp gi am li dl (rK (qStep 0 gp gi am Lo Se Em dl ν)) (rT (qStep 0 gp gi am Lo Se Em dl ν)) (rE (qStep 0 gp gi am Lo Se Em dl ν)) (rD (qStep 0 gp gi am Lo Se Em dl ν)) (rF (qStep 0 gp gi am Lo Se Em dl ν)) (rS (qStep 0 gp gi am Lo Se Em dl ν)) (rC (qStep 0 gp gi am Lo Se Em dl ν)) Hk (nI 0)) := hD
      have hR8 := rel_step hSk hR9.1
      have hk8 := (qStep_K 0 gp gi am Lo Se Em dl ν).trans (congrArg (· + 1) hk9)
      obtain ⟨ρ, hρ⟩ : ∃ ρ, ρ = qStep 0 gp gi am Lo Se Em dl ν := ⟨_, rfl⟩
      rw [← hρ] at hP hD hR8 hk8
      refine lv_iconst (v := nI 0) hx hb dX3_pass_56 (by decide +kernel) ?_
      refine lv_istore (lv' := [(4, .int (nI 0)), (0, .ref (y 0)), (1, .int (nI nm)), (2, .int (pSum li (fun k => sT (hRun gp gi am Lo Se Ef dl k σ)) z)), (3, .int (nI z))]) hx hb dX3_pass_57 hl (by decide) rfl (fun ls hl => ?_)
      have l2 : ∀ (n2 j : Nat), j + n2 = 6 → ∀ (H : Heap) (locs : List Loc), va_P D vwCl (wM cI cZ y Lo Se Em gp gi am li dl (rK ρ) (rT ρ) (rE ρ) (rD ρ) (rF ρ) (rS ρ) (rC ρ) (mFl j (mHo li (rT ρ) Hk) Hk) (nI 0)) H → va_D A (wM cI cZ y Lo Se Em gp gi am li dl (rK ρ) (rT ρ) (rE ρ) (rD ρ) (rF ρ) (rS ρ) (rC ρ) (mFl j (mHo li (rT ρ) Hk) Hk) (nI 0)) → va_S A s.heap H locs → ∀ ls : Array Slot, lv_has ls 5 [(0, .ref (y 0)), (1, .int (nI nm)), (2, .int (qNot li (rT ρ) (pSum li (fun k => sT (hRun gp gi am Lo Se Ef dl k σ)) z) j)), (3, .int (nI z)), (4, .int (nI j))] → W p l e rmX3_pass s m args below meth c H locs 0 0 Q (F0 m 59 ls []) := by
        intro n2
        induction n2 with
        | zero =>
          intro j hz H locs hP hD hS ls hl
          have hz9 : j = 6 := by omega
          subst hz9
          refine lv_iload hx hb dX3_pass_59 (lv_at hl 4 rfl) ?_
          refine lv_bipush (v := nI 6) hx hb dX3_pass_61 (by decide +kernel) ?_
          refine lv_icmp_ge (tgt := 123) hx hb dX3_pass_63 (by decide) (fun _ => ?_) (fun c9 => absurd (by decide +kernel) c9)
          refine lv_iinc (v := nI (z + 1)) (lv' := [(3, .int (nI (z + 1))), (0, .ref (y 0)), (1, .int (nI nm)), (2, .int (qNot li (rT ρ) (pSum li (fun k => sT (hRun gp gi am Lo Se Ef dl k σ)) z) 6)), (4, .int (nI 6))]) hx hb dX3_pass_123 hl (k := 3) rfl (k_inc _) (by decide) rfl (fun ls hl => ?_)
          refine lv_goto (tgt := 46) hx hb dX3_pass_126 (by decide) ?_
          have e9 : qNot li (rT ρ) (pSum li (fun k => sT (hRun gp gi am Lo Se Ef dl k σ)) z) 6 = pSum li (fun k => sT (hRun gp gi am Lo Se Ef dl k σ)) (z + 1) := by rw [qNot_m, mNot_cg (fun j hj => rel0_T hR8 hj)]; rfl
          refine ih (z + 1) (by omega) ρ (mFl 6 (mHo li (rT ρ) Hk) Hk) hR8 (by omega) (fun j hj => ?_) H locs hP hD hS ls (by rw [← e9]; exact (lv_sub hl [1, 2, 3, 0] rfl))
          rw [mFl_lt _ _ hj, mHo_cg (rel0_T hR8 hj) (hH9x j hj)]
          exact (mFl_lt _ _ hj).symm
        | succ n2 ih2 =>
          intro j hz H locs hP hD hS ls hl
          have hzb : j < 6 := by omega
          refine lv_iload hx hb dX3_pass_59 (lv_at hl 4 rfl) ?_
          refine lv_bipush (v := nI 6) hx hb dX3_pass_61 (by decide +kernel) ?_
          refine lv_icmp_ge (tgt := 123) hx hb dX3_pass_63 (by decide) (fun c9 => absurd c9 (nI_ge hzb (by decide))) (fun _ => ?_)
          refine lv_aload_n hx hb dX3_pass_66 rfl (lv_at hl 0 rfl) ?_
          refine va_get (D := D) (ci := 3) (v := .ref (y 11)) (C := RX3) (T := TX3) (N := 17) hx hb hts hi_X3 hown hK hP 0 rfl rfl 15 (by decide) (hts (.fieldLink RX3 57 "ColdaisleModel" "hots" "[I") (by decide +kernel)) (fun _ h9 => h9) rfl dX3_pass_67 ?_
          refine lv_iload hx hb dX3_pass_70 (lv_at hl 4 rfl) ?_
          refine lv_dup2_11 hx hb dX3_pass_72 rfl rfl ?_
          refine k_iald hx hb hK hP 11 0 rfl rfl (i := j) (by omega) (by decide) dX3_pass_73 ?_
          refine k_as (mFl_at j (mHo li (rT ρ) Hk) Hk) ?_
          refine lv_aload_n hx hb dX3_pass_74 rfl (lv_at hl 0 rfl) ?_
          refine va_get (D := D) (ci := 3) (v := .ref (y 5)) (C := RX3) (T := TX3) (N := 17) hx hb hts hi_X3 hown hK hP 0 rfl rfl 9 (by decide) (hts (.fieldLink RX3 38 "ColdaisleModel" "temperatures" "[I") (by decide +kernel)) (fun _ h9 => h9) rfl dX3_pass_75 ?_
          refine lv_iload hx hb dX3_pass_78 (lv_at hl 4 rfl) ?_
          refine k_iald hx hb hK hP 5 0 rfl rfl (i := j) (by omega) (by decide) dX3_pass_80 ?_
          refine lv_aload_n hx hb dX3_pass_81 rfl (lv_at hl 0 rfl) ?_
          refine va_get (D := D) (ci := 3) (v := .int li) (C := RX3) (T := TX3) (N := 17) hx hb hts hi_X3 hown hK hP 0 rfl rfl 6 (by decide) (hts (.fieldLink RX3 29 "ColdaisleModel" "limit" "I") (by decide +kernel)) (fun _ h9 => h9) rfl dX3_pass_82 ?_
          refine lv_icmp_le (tgt := 92) hx hb dX3_pass_85 (by decide) (fun c1 => ?_) (fun c1 => ?_)
          · refine lv_iconst (v := nI 0) hx hb dX3_pass_92 (by decide +kernel) ?_
            refine lv_iadd hx hb dX3_pass_93 ?_
            refine k_as (add_nI0 _) ?_
            refine k_iast hx hb hK hP hD hS 11 0 rfl rfl (i := j) (x := Hk j) (by omega) (by decide) dX3_pass_94 (fun H locs hP hD hS => ?_)
            have hP : va_P D vwCl (wM cI cZ y Lo Se Em gp gi am li dl (rK ρ) (rT ρ) (rE ρ) (rD ρ) (rF ρ) (rS ρ) (rC ρ) (upd (mFl j (mHo li (rT ρ) Hk) Hk) j (Hk j)) (nI 0)) H := hP
            have hD : va_D A (wM cI cZ y Lo Se Em gp gi am li dl (rK ρ) (rT ρ) (rE ρ) (rD ρ) (rF ρ) (rS ρ) (rC ρ) (upd (mFl j (mHo li (rT ρ) Hk) Hk) j (Hk j)) (nI 0)) := hD
            have hP : va_P D vwCl (wM cI cZ y Lo Se Em gp gi am li dl (rK ρ) (rT ρ) (rE ρ) (rD ρ) (rF ρ) (rS ρ) (rC ρ) (mFl (j + 1) (mHo li (rT ρ) Hk) Hk) (nI 0)) H := by rw [← mFl_up j (mHo li (rT ρ) Hk) Hk, show mHo li (rT ρ) Hk j = Hk j from if_pos c1]; exact hP
            have hD : va_D A (wM cI cZ y Lo Se Em gp gi am li dl (rK ρ) (rT ρ) (rE ρ) (rD ρ) (rF ρ) (rS ρ) (rC ρ) (mFl (j + 1) (mHo li (rT ρ) Hk) Hk) (nI 0)) := by rw [← mFl_up j (mHo li (rT ρ) Hk) Hk, show mHo li (rT ρ) Hk j = Hk j from if_pos c1]; exact hD
            refine lv_iload_n hx hb dX3_pass_95 rfl (lv_at hl 2 rfl) ?_
            refine lv_aload_n hx hb dX3_pass_96 rfl (lv_at hl 0 rfl) ?_
            refine va_get (D := D) (ci := 3) (v := .ref (y 5)) (C := RX3) (T := TX3) (N := 17) hx hb hts hi_X3 hown hK hP 0 rfl rfl 9 (by decide) (hts (.fieldLink RX3 38 "ColdaisleModel" "temperatures" "[I") (by decide +kernel)) (fun _ h9 => h9) rfl dX3_pass_97 ?_
            refine lv_iload hx hb dX3_pass_100 (lv_at hl 4 rfl) ?_
            refine k_iald hx hb hK hP 5 0 rfl rfl (i := j) (by omega) (by decide) dX3_pass_102 ?_
            refine lv_aload_n hx hb dX3_pass_103 rfl (lv_at hl 0 rfl) ?_
            refine va_get (D := D) (ci := 3) (v := .int li) (C := RX3) (T := TX3) (N := 17) hx hb hts hi_X3 hown hK hP 0 rfl rfl 6 (by decide) (hts (.fieldLink RX3 29 "ColdaisleModel" "limit" "I") (by decide +kernel)) (fun _ h9 => h9) rfl dX3_pass_104 ?_
            refine lv_icmp_le (tgt := 114) hx hb dX3_pass_107 (by decide) (fun _ => ?_) (fun c9 => absurd c1 c9)
            refine lv_iconst (v := nI 0) hx hb dX3_pass_114 (by decide +kernel) ?_
            refine lv_iadd hx hb dX3_pass_115 ?_
            refine k_as (add_nI0 _) ?_
            refine lv_istore_n (lv' := [(2, .int (qNot li (rT ρ) (pSum li (fun k => sT (hRun gp gi am Lo Se Ef dl k σ)) z) j)), (0, .ref (y 0)), (1, .int (nI nm)), (3, .int (nI z)), (4, .int (nI j))]) hx hb dX3_pass_116 rfl hl (by decide) rfl (fun ls hl => ?_)
            refine lv_iinc (v := nI (j + 1)) (lv' := [(4, .int (nI (j + 1))), (2, .int (qNot li (rT ρ) (pSum li (fun k => sT (hRun gp gi am Lo Se Ef dl k σ)) z) j)), (0, .ref (y 0)), (1, .int (nI nm)), (3, .int (nI z))]) hx hb dX3_pass_117 hl (k := 4) rfl (k_inc _) (by decide) rfl (fun ls hl => ?_)
            refine lv_goto (tgt := 59) hx hb dX3_pass_120 (by decide) ?_
            exact ih2 (j + 1) (by omega) H locs hP hD hS ls (by rw [qNot_t li (rT ρ) (pSum li (fun k => sT (hRun gp gi am Lo Se Ef dl k σ)) z) j c1]; exact (lv_sub hl [2, 3, 1, 4, 0] rfl))
          · refine lv_iconst (v := nI 1) hx hb dX3_pass_88 (by decide +kernel) ?_
            refine lv_goto (tgt := 93) hx hb dX3_pass_89 (by decide) ?_
            refine lv_iadd hx hb dX3_pass_93 ?_
            refine k_iast hx hb hK hP hD hS 11 0 rfl rfl (i := j) (x := (Hk j) + (nI 1)) (by omega) (by decide) dX3_pass_94 (fun H locs hP hD hS => ?_)
            have hP : va_P D vwCl (wM cI cZ y Lo Se Em gp gi am li dl (rK ρ) (rT ρ) (rE ρ) (rD ρ) (rF ρ) (rS ρ) (rC ρ) (upd (mFl j (mHo li (rT ρ) Hk) Hk) j ((Hk j) + (nI 1))) (nI 0)) H := hP
            have hD : va_D A (wM cI cZ y Lo Se Em gp gi am li dl (rK ρ) (rT ρ) (rE ρ) (rD ρ) (rF ρ) (rS ρ) (rC ρ) (upd (mFl j (mHo li (rT ρ) Hk) Hk) j ((Hk j) + (nI 1))) (nI 0)) := hD
            have hP : va_P D vwCl (wM cI cZ y Lo Se Em gp gi am li dl (rK ρ) (rT ρ) (rE ρ) (rD ρ) (rF ρ) (rS ρ) (rC ρ) (mFl (j + 1) (mHo li (rT ρ) Hk) Hk) (nI 0)) H := by rw [← mFl_up j (mHo li (rT ρ) Hk) Hk, show mHo li (rT ρ) Hk j = Hk j + nI 1 from if_neg c1]; exact hP
            have hD : va_D A (wM cI cZ y Lo Se Em gp gi am li dl (rK ρ) (rT ρ) (rE ρ) (rD ρ) (rF ρ) (rS ρ) (rC ρ) (mFl (j + 1) (mHo li (rT ρ) Hk) Hk) (nI 0)) := by rw [← mFl_up j (mHo li (rT ρ) Hk) Hk, show mHo li (rT ρ) Hk j = Hk j + nI 1 from if_neg c1]; exact hD
            refine lv_iload_n hx hb dX3_pass_95 rfl (lv_at hl 2 rfl) ?_
            refine lv_aload_n hx hb dX3_pass_96 rfl (lv_at hl 0 rfl) ?_
            refine va_get (D := D) (ci := 3) (v := .ref (y 5)) (C := RX3) (T := TX3) (N := 17) hx hb hts hi_X3 hown hK hP 0 rfl rfl 9 (by decide) (hts (.fieldLink RX3 38 "ColdaisleModel" "temperatures" "[I") (by decide +kernel)) (fun _ h9 => h9) rfl dX3_pass_97 ?_
            refine lv_iload hx hb dX3_pass_100 (lv_at hl 4 rfl) ?_
            refine k_iald hx hb hK hP 5 0 rfl rfl (i := j) (by omega) (by decide) dX3_pass_102 ?_
            refine lv_aload_n hx hb dX3_pass_103 rfl (lv_at hl 0 rfl) ?_
            refine va_get (D := D) (ci := 3) (v := .int li) (C := RX3) (T := TX3) (N := 17) hx hb hts hi_X3 hown hK hP 0 rfl rfl 6 (by decide) (hts (.fieldLink RX3 29 "ColdaisleModel" "limit" "I") (by decide +kernel)) (fun _ h9 => h9) rfl dX3_pass_104 ?_
            refine lv_icmp_le (tgt := 114) hx hb dX3_pass_107 (by decide) (fun c9 => absurd c9 c1) (fun _ => ?_)
            refine lv_iconst (v := nI 1) hx hb dX3_pass_110 (by decide +kernel) ?_
            refine lv_goto (tgt := 115) hx hb dX3_pass_111 (by decide) ?_
            refine lv_iadd hx hb dX3_pass_115 ?_
            refine lv_istore_n (lv' := [(2, .int ((qNot li (rT ρ) (pSum li (fun k => sT (hRun gp gi am Lo Se Ef dl k σ)) z) j) + (nI 1))), (0, .ref (y 0)), (1, .int (nI nm)), (3, .int (nI z)), (4, .int (nI j))]) hx hb dX3_pass_116 rfl hl (by decide) rfl (fun ls hl => ?_)
            refine lv_iinc (v := nI (j + 1)) (lv' := [(4, .int (nI (j + 1))), (2, .int ((qNot li (rT ρ) (pSum li (fun k => sT (hRun gp gi am Lo Se Ef dl k σ)) z) j) + (nI 1))), (0, .ref (y 0)), (1, .int (nI nm)), (3, .int (nI z))]) hx hb dX3_pass_117 hl (k := 4) rfl (k_inc _) (by decide) rfl (fun ls hl => ?_)
            refine lv_goto (tgt := 59) hx hb dX3_pass_120 (by decide) ?_
            exact ih2 (j + 1) (by omega) H locs hP hD hS ls (by rw [qNot_f li (rT ρ) (pSum li (fun k => sT (hRun gp gi am Lo Se Ef dl k σ)) z) j c1]; exact (lv_sub hl [2, 3, 1, 4, 0] rfl))
      exact l2 6 0 rfl H locs (by simp only [mFl_0]; exact hP) (by simp only [mFl_0]; exact hD) hS ls (lv_sub hl [1, 2, 3, 4, 0] rfl)
  exact lp nm 0 (by omega) μ Ho hR rfl hHc H locs hP hD hS ls (lv_sub hl [2, 3, 1, 0] rfl)

set_option maxHeartbeats 4000000 in
set_option maxRecDepth 100000 in
/-- pass_two -/
theorem c_X3_pass_two (l : Launch) (D : va_G) (cI cZ cO cJ : ClassId) (y : Nat → Nat) (Lo Se Ef : Nat → Int32) (gp gi am li : Int32) (dl : Nat) (ck : Nat → Nat) (T Su Dm F Sp C Ho : Nat → Int32) (th : Int32) (nm : Nat) (sz : Nat) (h1 : 0 < nm) (h2 : nm ≤ 300) (hc : 100000 < ck 0 + nm) (hk : ck 0 ≤ 100000) : kMi l yX3_pass wsX3_pass rmX3_pass D (kT cI cZ cO cJ) [.ref (y 0), .int (nI nm)] (wM cI cZ y Lo Se Ef gp gi am li dl ck T Su Dm F Sp C Ho th) (wM cI cZ y Lo Se Ef gp gi am li dl ck T Su Dm F Sp C Ho (nI 2)) sz (nI 0) := by
  refine kEnter (cc := cX3_pass) (maxL := 5) (ret := some .int) (by decide +kernel) rfl (Nat.le_of_ble_eq_true rfl) ?_
  intro p e s m below meth c args hx hb hr hml hts hown hlocks hin hK hN A hA9 Q hQ9 hP hD hsz hS hA ls hl
  have hl : lv_has ls 5 [(0, .ref (y 0)), (1, .int (nI nm))] := hl
  have hi_X3 : ∀ w ∈ u_ws RX3 TX3 17, w ∈ wsX3_pass := by decide +kernel
  obtain ⟨H, hH9⟩ : ∃ H, H = s.heap := ⟨_, rfl⟩
  rw [← hH9] at hP ⊢
  have hS : va_S A s.heap H [] := by rw [hH9]; exact va_S.rf
  refine lv_aload_n hx hb dX3_pass_0 rfl (lv_at hl 0 rfl) ?_
  refine lv_iload_n hx hb dX3_pass_1 rfl (lv_at hl 1 rfl) ?_
  refine lv_iconst (v := nI 1) hx hb dX3_pass_2 (by decide +kernel) ?_
  refine lv_sipush (v := nI 300) hx hb dX3_pass_3 (by decide +kernel) ?_
  refine kCall_i (W0 := []) (W1 := []) hP hD hS hA [] rfl rfl (va_runS (As := [.int (nI nm), .int (nI 1), .int (nI 300)]) (rest := [.ref (y 0)]) ⟨hx, hb, hml, hown, hts⟩ (c_X3_isIn_ok l D cI cZ cO cJ (nI nm) (nI 1) (nI 300) H.size (inR_nI (by omega) (by omega) (by decide))) (va_cwS (rm := rmX3_isIn) 3 hts gX3_pass_X3_isIn rfl rfl rfl (by decide +kernel) ⟨Nat.le_of_ble_eq_true rfl, Nat.le_of_ble_eq_true rfl⟩) (kPreS hK hN hP hD [] rfl rfl) rfl rfl hl.1 rfl (lv_room (Nat.le_of_ble_eq_true rfl)) dX3_pass_6 ⟨Nat.zero_le _, Nat.zero_le _⟩) (fun H locs hP hD hS => ?_)
  have hP : va_P D vwCl (wM cI cZ y Lo Se Ef gp gi am li dl ck T Su Dm F Sp C Ho th) H := hP
  have hD : va_D A (wM cI cZ y Lo Se Ef gp gi am li dl ck T Su Dm F Sp C Ho th) := hD
  refine lv_if_ne (tgt := 16) hx hb dX3_pass_9 (by decide) (fun _ => ?_) (fun c9 => absurd c9 (by decide +kernel))
  refine lv_aload_n hx hb dX3_pass_16 rfl (lv_at hl 0 rfl) ?_
  refine va_get (D := D) (ci := 3) (v := .ref (y 4)) (C := RX3) (T := TX3) (N := 17) hx hb hts hi_X3 hown hK hP 0 rfl rfl 8 (by decide) (hts (.fieldLink RX3 35 "ColdaisleModel" "clocks" "[I") (by decide +kernel)) (fun _ h9 => h9) rfl dX3_pass_17 ?_
  refine lv_iconst (v := nI 0) hx hb dX3_pass_20 (by decide +kernel) ?_
  refine k_iald hx hb hK hP 4 0 rfl rfl (i := 0) (by decide) (by decide) dX3_pass_21 ?_
  refine k_as rfl ?_
  refine lv_iload_n hx hb dX3_pass_22 rfl (lv_at hl 1 rfl) ?_
  refine lv_iadd hx hb dX3_pass_23 ?_
  refine k_as (nI_add _ _) ?_
  refine lv_ldc hx hb hown (hts (.constant RX3 102 (100000)) (by decide +kernel)) dX3_pass_24 ?_
  refine k_as (y := nI 100000) (by decide +kernel) ?_
  refine lv_icmp_le (tgt := 33) hx hb dX3_pass_26 (by decide) (fun c9 => absurd c9 (nI_nle2 hc (by omega))) (fun _ => ?_)
  refine lv_iconst (v := nI 2) hx hb dX3_pass_29 (by decide +kernel) ?_
  refine lv_goto (tgt := 34) hx hb dX3_pass_30 (by decide) ?_
  refine kCallW_i (W1 := wM cI cZ y Lo Se Ef gp gi am li dl ck T Su Dm F Sp C Ho (nI 2)) hD hS hA rfl (va_runV (As := [.int (nI 2)]) (rest := []) ⟨hx, hb, hml, hown, hts⟩ (c_X3_goes_1 l D cI cZ cO cJ y Lo Se Ef gp gi am li dl ck T Su Dm F Sp C Ho th (nI 2) H.size (by decide +kernel)) (cwV (rm := rmX3_goes) 1 hts gX3_pass_X3_goes rfl rfl rfl (by decide +kernel) ⟨Nat.le_of_ble_eq_true rfl, Nat.le_of_ble_eq_true rfl⟩) (kPreVW hK hN hP hD (va_recv hK hP (ci := 3) (q0 := 0) rfl rfl)) rfl rfl hl.1 rfl (lv_room (Nat.le_of_ble_eq_true rfl)) dX3_pass_34 ⟨Nat.zero_le _, Nat.zero_le _⟩) (fun H locs hP hD hS => ?_)
  refine lv_if_ne (tgt := 42) hx hb dX3_pass_37 (by decide) (fun c9 => absurd (by decide +kernel) c9) (fun _ => ?_)
  refine lv_iconst (v := nI 0) hx hb dX3_pass_40 (by decide +kernel) ?_
  subst hQ9
  subst hA9
  exact kRet_i hx hb hr hlocks hP hS dX3_pass_41 rfl

set_option maxHeartbeats 4000000 in
set_option maxRecDepth 100000 in
/-- pass_bad -/
theorem c_X3_pass_bad (l : Launch) (D : va_G) (cI cZ cO cJ : ClassId) (y : Nat → Nat) (Lo Se Ef : Nat → Int32) (gp gi am li : Int32) (dl : Nat) (ck : Nat → Nat) (T Su Dm F Sp C Ho : Nat → Int32) (th : Int32) (v : Int32) (sz : Nat) (h : ¬ inR v (nI 1) (nI 300)) : kMi l yX3_pass wsX3_pass rmX3_pass D (kT cI cZ cO cJ) [.ref (y 0), .int v] (wM cI cZ y Lo Se Ef gp gi am li dl ck T Su Dm F Sp C Ho th) (wM cI cZ y Lo Se Ef gp gi am li dl ck T Su Dm F Sp C Ho (nI 1)) sz (nI 0) := by
  refine kEnter (cc := cX3_pass) (maxL := 5) (ret := some .int) (by decide +kernel) rfl (Nat.le_of_ble_eq_true rfl) ?_
  intro p e s m below meth c args hx hb hr hml hts hown hlocks hin hK hN A hA9 Q hQ9 hP hD hsz hS hA ls hl
  have hl : lv_has ls 5 [(0, .ref (y 0)), (1, .int v)] := hl
  have hi_X3 : ∀ w ∈ u_ws RX3 TX3 17, w ∈ wsX3_pass := by decide +kernel
  obtain ⟨H, hH9⟩ : ∃ H, H = s.heap := ⟨_, rfl⟩
  rw [← hH9] at hP ⊢
  have hS : va_S A s.heap H [] := by rw [hH9]; exact va_S.rf
  refine lv_aload_n hx hb dX3_pass_0 rfl (lv_at hl 0 rfl) ?_
  refine lv_iload_n hx hb dX3_pass_1 rfl (lv_at hl 1 rfl) ?_
  refine lv_iconst (v := nI 1) hx hb dX3_pass_2 (by decide +kernel) ?_
  refine lv_sipush (v := nI 300) hx hb dX3_pass_3 (by decide +kernel) ?_
  refine kCall_i (W0 := []) (W1 := []) hP hD hS hA [] rfl rfl (va_runS (As := [.int v, .int (nI 1), .int (nI 300)]) (rest := [.ref (y 0)]) ⟨hx, hb, hml, hown, hts⟩ (c_X3_isIn_bad l D cI cZ cO cJ v (nI 1) (nI 300) H.size h) (va_cwS (rm := rmX3_isIn) 3 hts gX3_pass_X3_isIn rfl rfl rfl (by decide +kernel) ⟨Nat.le_of_ble_eq_true rfl, Nat.le_of_ble_eq_true rfl⟩) (kPreS hK hN hP hD [] rfl rfl) rfl rfl hl.1 rfl (lv_room (Nat.le_of_ble_eq_true rfl)) dX3_pass_6 ⟨Nat.zero_le _, Nat.zero_le _⟩) (fun H locs hP hD hS => ?_)
  have hP : va_P D vwCl (wM cI cZ y Lo Se Ef gp gi am li dl ck T Su Dm F Sp C Ho th) H := hP
  have hD : va_D A (wM cI cZ y Lo Se Ef gp gi am li dl ck T Su Dm F Sp C Ho th) := hD
  refine lv_if_ne (tgt := 16) hx hb dX3_pass_9 (by decide) (fun c9 => absurd (by decide +kernel) c9) (fun _ => ?_)
  refine lv_iconst (v := nI 1) hx hb dX3_pass_12 (by decide +kernel) ?_
  refine lv_goto (tgt := 34) hx hb dX3_pass_13 (by decide) ?_
  refine kCallW_i (W1 := wM cI cZ y Lo Se Ef gp gi am li dl ck T Su Dm F Sp C Ho (nI 1)) hD hS hA rfl (va_runV (As := [.int (nI 1)]) (rest := []) ⟨hx, hb, hml, hown, hts⟩ (c_X3_goes_1 l D cI cZ cO cJ y Lo Se Ef gp gi am li dl ck T Su Dm F Sp C Ho th (nI 1) H.size (by decide +kernel)) (cwV (rm := rmX3_goes) 1 hts gX3_pass_X3_goes rfl rfl rfl (by decide +kernel) ⟨Nat.le_of_ble_eq_true rfl, Nat.le_of_ble_eq_true rfl⟩) (kPreVW hK hN hP hD (va_recv hK hP (ci := 3) (q0 := 0) rfl rfl)) rfl rfl hl.1 rfl (lv_room (Nat.le_of_ble_eq_true rfl)) dX3_pass_34 ⟨Nat.zero_le _, Nat.zero_le _⟩) (fun H locs hP hD hS => ?_)
  refine lv_if_ne (tgt := 42) hx hb dX3_pass_37 (by decide) (fun c9 => absurd (by decide +kernel) c9) (fun _ => ?_)
  refine lv_iconst (v := nI 0) hx hb dX3_pass_40 (by decide +kernel) ?_
  subst hQ9
  subst hA9
  exact kRet_i hx hb hr hlocks hP hS dX3_pass_41 rfl

