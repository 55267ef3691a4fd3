section IM
variable {p : Program} {l : Launch} {e : Env} {s : State} {m : MethodId} {args : Array Value} {below : List Frame} {meth : Method} {c : Code} {Q : State → Prop} {D : va_G} {cI cZ cO cJ : ClassId} {x a t b : Nat → Nat} {ap ae az : Nat} {A : Nat → Prop} {q : QS} {pf ef zf : Nat → Int32} {B : Nat}
set_option maxHeartbeats 4000000 in
set_option maxRecDepth 100000 in
theorem im_578 {z : Nat} (h0 : MC p l s m args c D cI cZ cO cJ A) (hQ : QOK q) (hQ1 : QOK (qPass q 1)) (hck : qK q + 1 ≤ 100000) (hp : PR pf q B) (hE : ER ef q) (hZ : ZR zf q) (hzz : z < 6) (kk : ∀ (ρ : HS) (H : Heap) (locs : List Loc), va_P D vwCl (wQ cI cZ cO x a t b (qPass q 1) ρ ++ [(ap, .inl (cI, 6, .inl pf)), (ae, .inl (cI, 48, .inl ef)), (az, .inl (cI, 30, .inl (zM q zf 6)))]) H → va_D A (wQ cI cZ cO x a t b (qPass q 1) ρ ++ [(ap, .inl (cI, 6, .inl pf)), (ae, .inl (cI, 48, .inl ef)), (az, .inl (cI, 30, .inl (zM q zf 6)))]) → va_S A s.heap H locs → ∀ ls : Array Slot, lv_has ls 20 [(0, .ref (x 0)), (1, .ref ae), (2, .ref az), (3, .ref ap), (4, .int (mNot (qli q) (sT (qσ (qPass q 1))) (z + 1))), (7, .int (mNot (qli q) (sT (qσ (qPass q 1))) 6)), (8, .int (nI 1)), (9, .int (nI (z + 1)))] → W p l e rmL_isMinute s m args below meth c H locs 0 0 Q (F0 m 114 ls [])) (c5 : ¬ mFs (sF (qσ q)) (fun f => qEf q f z) 8 = 0) : ∀ (ρ : HS) (H : Heap) (locs : List Loc), va_P D vwCl (wQ cI cZ cO x a t b (qPass q 1) ρ ++ [(ap, .inl (cI, 6, .inl pf)), (ae, .inl (cI, 48, .inl ef)), (az, .inl (cI, 30, .inl (zM q zf 6)))]) H → va_D A (wQ cI cZ cO x a t b (qPass q 1) ρ ++ [(ap, .inl (cI, 6, .inl pf)), (ae, .inl (cI, 48, .inl ef)), (az, .inl (cI, 30, .inl (zM q zf 6)))]) → va_S A s.heap H locs → ∀ ls : Array Slot, lv_has ls 20 [(8, .int (nI 1)), (4, .int (mNot (qli q) (sT (qσ (qPass q 1))) (z + 1))), (18, .int (mHv (sT (qσ (qPass q 1)) z) (qli q))), (17, .int ((((nI 100) * (qgp q)) * ((sT (qσ q) z) - (qSe q z))) + ((qgi q) * (sE (qσ (qPass q 1)) z)))), (16, .int ((qam q) - (sT (qσ q) z))), (15, .int ((nI 64) * ((((sT (qσ (qPass q 1)) z) - (sT (qσ q) z)) - (qLo q z)) + ((mCo (qEf q) (sS (qσ (qPass q 1))) z 8) / (nI 100))))), (11, .int ((sE (qσ q) z) + ((sT (qσ q) z) - (qSe q z)))), (10, .int ((sT (qσ q) z) - (qSe q z))), (0, .ref (x 0)), (1, .ref ae), (2, .ref az), (3, .ref ap), (7, .int (mNot (qli q) (sT (qσ (qPass q 1))) 6)), (9, .int (nI z)), (12, .int (mCo (qEf q) (sS (qσ (qPass q 1))) z 8)), (13, .int (mFs (sF (qσ q)) (fun f => qEf q f z) 8)), (14, .int (mRun (sF (qσ q)) (fun f => qEf q f z) 8))] → W p l e rmL_isMinute s m args below meth c H locs 0 0 Q (F0 m 578 ls []) := by
  obtain ⟨hx, hb, hml, hts, hown, hK, hN, hX, hC, hA⟩ := id h0
  intro ρ H locs hP hD hS ls hl
  refine lv_iload hx hb dL_isMinute_578 (lv_at hl 3 rfl) ?_
  refine lv_sipush (v := nI 10000) hx hb dL_isMinute_580 (by decide +kernel) ?_
  refine lv_icmp_ge (tgt := 600) hx hb dL_isMinute_583 (by decide) (fun c8 => ?_) (fun c8 => ?_)
  · refine lv_iconst (v := nI 1) hx hb dL_isMinute_600 (by decide +kernel) ?_
    refine lv_goto (tgt := 605) hx hb dL_isMinute_601 (by decide) ?_
    refine lv_istore (lv' := [(8, .int (nI 1)), (4, .int (mNot (qli q) (sT (qσ (qPass q 1))) (z + 1))), (18, .int (mHv (sT (qσ (qPass q 1)) z) (qli q))), (17, .int ((((nI 100) * (qgp q)) * ((sT (qσ q) z) - (qSe q z))) + ((qgi q) * (sE (qσ (qPass q 1)) z)))), (16, .int ((qam q) - (sT (qσ q) z))), (15, .int ((nI 64) * ((((sT (qσ (qPass q 1)) z) - (sT (qσ q) z)) - (qLo q z)) + ((mCo (qEf q) (sS (qσ (qPass q 1))) z 8) / (nI 100))))), (11, .int ((sE (qσ q) z) + ((sT (qσ q) z) - (qSe q z)))), (10, .int ((sT (qσ q) z) - (qSe q z))), (0, .ref (x 0)), (1, .ref ae), (2, .ref az), (3, .ref ap), (7, .int (mNot (qli q) (sT (qσ (qPass q 1))) 6)), (9, .int (nI z)), (12, .int (mCo (qEf q) (sS (qσ (qPass q 1))) z 8)), (13, .int (mFs (sF (qσ q)) (fun f => qEf q f z) 8)), (14, .int (mRun (sF (qσ q)) (fun f => qEf q f z) 8))]) hx hb dL_isMinute_605 hl (by decide) rfl (fun ls hl => ?_)
    refine lv_iinc (v := nI (z + 1)) (lv' := [(9, .int (nI (z + 1))), (8, .int (nI 1)), (4, .int (mNot (qli q) (sT (qσ (qPass q 1))) (z + 1))), (18, .int (mHv (sT (qσ (qPass q 1)) z) (qli q))), (17, .int ((((nI 100) * (qgp q)) * ((sT (qσ q) z) - (qSe q z))) + ((qgi q) * (sE (qσ (qPass q 1)) z)))), (16, .int ((qam q) - (sT (qσ q) z))), (15, .int ((nI 64) * ((((sT (qσ (qPass q 1)) z) - (sT (qσ q) z)) - (qLo q z)) + ((mCo (qEf q) (sS (qσ (qPass q 1))) z 8) / (nI 100))))), (11, .int ((sE (qσ q) z) + ((sT (qσ q) z) - (qSe q z)))), (10, .int ((sT (qσ q) z) - (qSe q z))), (0, .ref (x 0)), (1, .ref ae), (2, .ref az), (3, .ref ap), (7, .int (mNot (qli q) (sT (qσ (qPass q 1))) 6)), (12, .int (mCo (qEf q) (sS (qσ (qPass q 1))) z 8)), (13, .int (mFs (sF (qσ q)) (fun f => qEf q f z) 8)), (14, .int (mRun (sF (qσ q)) (fun f => qEf q f z) 8))]) hx hb dL_isMinute_607 hl (k := 13) rfl (k_inc _) (by decide) rfl (fun ls hl => ?_)
    refine lv_goto (tgt := 114) hx hb dL_isMinute_610 (by decide) ?_
    exact kk ρ H locs hP hD hS ls (lv_sub hl [9, 10, 11, 12, 2, 13, 1, 0] rfl)
  · refine lv_iload hx hb dL_isMinute_586 (lv_at hl 16 rfl) ?_
    refine lv_if_eq (tgt := 600) hx hb dL_isMinute_588 (by decide) (fun cr => ?_) (fun cr => ?_)
    · refine lv_iconst (v := nI 1) hx hb dL_isMinute_600 (by decide +kernel) ?_
      refine lv_goto (tgt := 605) hx hb dL_isMinute_601 (by decide) ?_
      refine lv_istore (lv' := [(8, .int (nI 1)), (4, .int (mNot (qli q) (sT (qσ (qPass q 1))) (z + 1))), (18, .int (mHv (sT (qσ (qPass q 1)) z) (qli q))), (17, .int ((((nI 100) * (qgp q)) * ((sT (qσ q) z) - (qSe q z))) + ((qgi q) * (sE (qσ (qPass q 1)) z)))), (16, .int ((qam q) - (sT (qσ q) z))), (15, .int ((nI 64) * ((((sT (qσ (qPass q 1)) z) - (sT (qσ q) z)) - (qLo q z)) + ((mCo (qEf q) (sS (qσ (qPass q 1))) z 8) / (nI 100))))), (11, .int ((sE (qσ q) z) + ((sT (qσ q) z) - (qSe q z)))), (10, .int ((sT (qσ q) z) - (qSe q z))), (0, .ref (x 0)), (1, .ref ae), (2, .ref az), (3, .ref ap), (7, .int (mNot (qli q) (sT (qσ (qPass q 1))) 6)), (9, .int (nI z)), (12, .int (mCo (qEf q) (sS (qσ (qPass q 1))) z 8)), (13, .int (mFs (sF (qσ q)) (fun f => qEf q f z) 8)), (14, .int (mRun (sF (qσ q)) (fun f => qEf q f z) 8))]) hx hb dL_isMinute_605 hl (by decide) rfl (fun ls hl => ?_)
      refine lv_iinc (v := nI (z + 1)) (lv' := [(9, .int (nI (z + 1))), (8, .int (nI 1)), (4, .int (mNot (qli q) (sT (qσ (qPass q 1))) (z + 1))), (18, .int (mHv (sT (qσ (qPass q 1)) z) (qli q))), (17, .int ((((nI 100) * (qgp q)) * ((sT (qσ q) z) - (qSe q z))) + ((qgi q) * (sE (qσ (qPass q 1)) z)))), (16, .int ((qam q) - (sT (qσ q) z))), (15, .int ((nI 64) * ((((sT (qσ (qPass q 1)) z) - (sT (qσ q) z)) - (qLo q z)) + ((mCo (qEf q) (sS (qσ (qPass q 1))) z 8) / (nI 100))))), (11, .int ((sE (qσ q) z) + ((sT (qσ q) z) - (qSe q z)))), (10, .int ((sT (qσ q) z) - (qSe q z))), (0, .ref (x 0)), (1, .ref ae), (2, .ref az), (3, .ref ap), (7, .int (mNot (qli q) (sT (qσ (qPass q 1))) 6)), (12, .int (mCo (qEf q) (sS (qσ (qPass q 1))) z 8)), (13, .int (mFs (sF (qσ q)) (fun f => qEf q f z) 8)), (14, .int (mRun (sF (qσ q)) (fun f => qEf q f z) 8))]) hx hb dL_isMinute_607 hl (k := 13) rfl (k_inc _) (by decide) rfl (fun ls hl => ?_)
      refine lv_goto (tgt := 114) hx hb dL_isMinute_610 (by decide) ?_
      exact kk ρ H locs hP hD hS ls (lv_sub hl [9, 10, 11, 12, 2, 13, 1, 0] rfl)
    · refine lv_aload_n hx hb dL_isMinute_591 rfl (lv_at hl 8 rfl) ?_
      refine lv_iload hx hb dL_isMinute_592 (lv_at hl 13 rfl) ?_
      refine kCallP_i (mc := 0) (ms := 0) (W1 := fun _ : Unit => wQ cI cZ cO x a t b (qPass q 1) ρ) (fun _ _ h => h) hP hD hS hA (fun _ => rfl) (va_runV (As := [.int (nI z)]) (rest := []) ⟨hx, hb, hml, hown, hts⟩ (c_X2_demand l D cI cZ cO cJ x a t b (qK (qPass q 1)) (qHo (qPass q 1)) (sT (qσ (qPass q 1))) (sE (qσ (qPass q 1))) (sD (qσ (qPass q 1))) (sF (qσ (qPass q 1))) (sS (qσ (qPass q 1))) (sC (qσ (qPass q 1))) (sL (qσ (qPass q 1))) (sT ρ) (sE ρ) (sD ρ) (sF ρ) (sS ρ) (sC ρ) (sL ρ) (qLo (qPass q 1)) (qSe (qPass q 1)) (qEf (qPass q 1)) (qgp (qPass q 1)) (qgi (qPass q 1)) (qam (qPass q 1)) (qli (qPass q 1)) (qdl (qPass q 1)) z H.size (by omega)) (cwV (rm := rmX2_demand) 1 hts gL_isMinute_X2_demand rfl rfl rfl (by decide +kernel) ⟨Nat.le_of_ble_eq_true rfl, Nat.le_of_ble_eq_true rfl⟩) (kPreVW hK hN (pfP hP) (pfD hD) (va_recv hK (pfP hP) (ci := 2) (q0 := 0) rfl rfl)) rfl rfl hl.1 rfl (lv_room (Nat.le_of_ble_eq_true rfl)) dL_isMinute_594 ⟨Nat.zero_le _, Nat.zero_le _⟩) (fun r9 u9 H locs hr9 hP hD hS => ?_)
      have hr9 : r9 = sD (qσ (qPass q 1)) z := hr9
      subst hr9
      refine lv_if_ne (tgt := 604) hx hb dL_isMinute_597 (by decide) (fun c9 => absurd (mi_x2 hQ hzz c5 cr c8) c9) (fun _ => ?_)
      refine lv_iconst (v := nI 1) hx hb dL_isMinute_600 (by decide +kernel) ?_
      refine lv_goto (tgt := 605) hx hb dL_isMinute_601 (by decide) ?_
      refine lv_istore (lv' := [(8, .int (nI 1)), (4, .int (mNot (qli q) (sT (qσ (qPass q 1))) (z + 1))), (18, .int (mHv (sT (qσ (qPass q 1)) z) (qli q))), (17, .int ((((nI 100) * (qgp q)) * ((sT (qσ q) z) - (qSe q z))) + ((qgi q) * (sE (qσ (qPass q 1)) z)))), (16, .int ((qam q) - (sT (qσ q) z))), (15, .int ((nI 64) * ((((sT (qσ (qPass q 1)) z) - (sT (qσ q) z)) - (qLo q z)) + ((mCo (qEf q) (sS (qσ (qPass q 1))) z 8) / (nI 100))))), (11, .int ((sE (qσ q) z) + ((sT (qσ q) z) - (qSe q z)))), (10, .int ((sT (qσ q) z) - (qSe q z))), (0, .ref (x 0)), (1, .ref ae), (2, .ref az), (3, .ref ap), (7, .int (mNot (qli q) (sT (qσ (qPass q 1))) 6)), (9, .int (nI z)), (12, .int (mCo (qEf q) (sS (qσ (qPass q 1))) z 8)), (13, .int (mFs (sF (qσ q)) (fun f => qEf q f z) 8)), (14, .int (mRun (sF (qσ q)) (fun f => qEf q f z) 8))]) hx hb dL_isMinute_605 hl (by decide) rfl (fun ls hl => ?_)
      refine lv_iinc (v := nI (z + 1)) (lv' := [(9, .int (nI (z + 1))), (8, .int (nI 1)), (4, .int (mNot (qli q) (sT (qσ (qPass q 1))) (z + 1))), (18, .int (mHv (sT (qσ (qPass q 1)) z) (qli q))), (17, .int ((((nI 100) * (qgp q)) * ((sT (qσ q) z) - (qSe q z))) + ((qgi q) * (sE (qσ (qPass q 1)) z)))), (16, .int ((qam q) - (sT (qσ q) z))), (15, .int ((nI 64) * ((((sT (qσ (qPass q 1)) z) - (sT (qσ q) z)) - (qLo q z)) + ((mCo (qEf q) (sS (qσ (qPass q 1))) z 8) / (nI 100))))), (11, .int ((sE (qσ q) z) + ((sT (qσ q) z) - (qSe q z)))), (10, .int ((sT (qσ q) z) - (qSe q z))), (0, .ref (x 0)), (1, .ref ae), (2, .ref az), (3, .ref ap), (7, .int (mNot (qli q) (sT (qσ (qPass q 1))) 6)), (12, .int (mCo (qEf q) (sS (qσ (qPass q 1))) z 8)), (13, .int (mFs (sF (qσ q)) (fun f => qEf q f z) 8)), (14, .int (mRun (sF (qσ q)) (fun f => qEf q f z) 8))]) hx hb dL_isMinute_607 hl (k := 13) rfl (k_inc _) (by decide) rfl (fun ls hl => ?_)
      refine lv_goto (tgt := 114) hx hb dL_isMinute_610 (by decide) ?_
      exact kk ρ H locs hP hD hS ls (lv_sub hl [9, 10, 11, 12, 2, 13, 1, 0] rfl)

set_option maxHeartbeats 4000000 in
set_option maxRecDepth 100000 in
theorem im_560 {z : Nat} (h0 : MC p l s m args c D cI cZ cO cJ A) (hQ : QOK q) (hQ1 : QOK (qPass q 1)) (hck : qK q + 1 ≤ 100000) (hp : PR pf q B) (hE : ER ef q) (hZ : ZR zf q) (hzz : z < 6) (kk : ∀ (ρ : HS) (H : Heap) (locs : List Loc), va_P D vwCl (wQ cI cZ cO x a t b (qPass q 1) ρ ++ [(ap, .inl (cI, 6, .inl pf)), (ae, .inl (cI, 48, .inl ef)), (az, .inl (cI, 30, .inl (zM q zf 6)))]) H → va_D A (wQ cI cZ cO x a t b (qPass q 1) ρ ++ [(ap, .inl (cI, 6, .inl pf)), (ae, .inl (cI, 48, .inl ef)), (az, .inl (cI, 30, .inl (zM q zf 6)))]) → va_S A s.heap H locs → ∀ ls : Array Slot, lv_has ls 20 [(0, .ref (x 0)), (1, .ref ae), (2, .ref az), (3, .ref ap), (4, .int (mNot (qli q) (sT (qσ (qPass q 1))) (z + 1))), (7, .int (mNot (qli q) (sT (qσ (qPass q 1))) 6)), (8, .int (nI 1)), (9, .int (nI (z + 1)))] → W p l e rmL_isMinute s m args below meth c H locs 0 0 Q (F0 m 114 ls [])) (c5 : ¬ mFs (sF (qσ q)) (fun f => qEf q f z) 8 = 0) : ∀ (ρ : HS) (H : Heap) (locs : List Loc), va_P D vwCl (wQ cI cZ cO x a t b (qPass q 1) ρ ++ [(ap, .inl (cI, 6, .inl pf)), (ae, .inl (cI, 48, .inl ef)), (az, .inl (cI, 30, .inl (zM q zf 6)))]) H → va_D A (wQ cI cZ cO x a t b (qPass q 1) ρ ++ [(ap, .inl (cI, 6, .inl pf)), (ae, .inl (cI, 48, .inl ef)), (az, .inl (cI, 30, .inl (zM q zf 6)))]) → va_S A s.heap H locs → ∀ ls : Array Slot, lv_has ls 20 [(8, .int (nI 1)), (4, .int (mNot (qli q) (sT (qσ (qPass q 1))) (z + 1))), (18, .int (mHv (sT (qσ (qPass q 1)) z) (qli q))), (17, .int ((((nI 100) * (qgp q)) * ((sT (qσ q) z) - (qSe q z))) + ((qgi q) * (sE (qσ (qPass q 1)) z)))), (16, .int ((qam q) - (sT (qσ q) z))), (15, .int ((nI 64) * ((((sT (qσ (qPass q 1)) z) - (sT (qσ q) z)) - (qLo q z)) + ((mCo (qEf q) (sS (qσ (qPass q 1))) z 8) / (nI 100))))), (11, .int ((sE (qσ q) z) + ((sT (qσ q) z) - (qSe q z)))), (10, .int ((sT (qσ q) z) - (qSe q z))), (0, .ref (x 0)), (1, .ref ae), (2, .ref az), (3, .ref ap), (7, .int (mNot (qli q) (sT (qσ (qPass q 1))) 6)), (9, .int (nI z)), (12, .int (mCo (qEf q) (sS (qσ (qPass q 1))) z 8)), (13, .int (mFs (sF (qσ q)) (fun f => qEf q f z) 8)), (14, .int (mRun (sF (qσ q)) (fun f => qEf q f z) 8))] → W p l e rmL_isMinute s m args below meth c H locs 0 0 Q (F0 m 560 ls []) := by
  obtain ⟨hx, hb, hml, hts, hown, hK, hN, hX, hC, hA⟩ := id h0
  intro ρ H locs hP hD hS ls hl
  refine lv_iload hx hb dL_isMinute_560 (lv_at hl 3 rfl) ?_
  refine lv_ldc hx hb hown (hts (.constant RL 113 (1000000)) (by decide +kernel)) dL_isMinute_562 ?_
  refine k_as (y := nI 1000000) (by decide +kernel) ?_
  refine lv_icmp_lt (tgt := 578) hx hb dL_isMinute_564 (by decide) (fun c7 => ?_) (fun c7 => ?_)
  · exact im_578 h0 hQ hQ1 hck hp hE hZ hzz kk c5 ρ H locs hP hD hS ls (lv_sub hl [0, 1, 2, 3, 4, 5, 6, 7, 8, 9, 10, 11, 12, 13, 14, 15, 16] rfl)
  · refine lv_aload_n hx hb dL_isMinute_567 rfl (lv_at hl 8 rfl) ?_
    refine lv_iload hx hb dL_isMinute_568 (lv_at hl 13 rfl) ?_
    refine kCallP_i (mc := 0) (ms := 0) (W1 := fun _ : Unit => wQ cI cZ cO x a t b (qPass q 1) ρ) (fun _ _ h => h) hP hD hS hA (fun _ => rfl) (va_runV (As := [.int (nI z)]) (rest := []) ⟨hx, hb, hml, hown, hts⟩ (c_X2_demand l D cI cZ cO cJ x a t b (qK (qPass q 1)) (qHo (qPass q 1)) (sT (qσ (qPass q 1))) (sE (qσ (qPass q 1))) (sD (qσ (qPass q 1))) (sF (qσ (qPass q 1))) (sS (qσ (qPass q 1))) (sC (qσ (qPass q 1))) (sL (qσ (qPass q 1))) (sT ρ) (sE ρ) (sD ρ) (sF ρ) (sS ρ) (sC ρ) (sL ρ) (qLo (qPass q 1)) (qSe (qPass q 1)) (qEf (qPass q 1)) (qgp (qPass q 1)) (qgi (qPass q 1)) (qam (qPass q 1)) (qli (qPass q 1)) (qdl (qPass q 1)) z H.size (by omega)) (cwV (rm := rmX2_demand) 1 hts gL_isMinute_X2_demand rfl rfl rfl (by decide +kernel) ⟨Nat.le_of_ble_eq_true rfl, Nat.le_of_ble_eq_true rfl⟩) (kPreVW hK hN (pfP hP) (pfD hD) (va_recv hK (pfP hP) (ci := 2) (q0 := 0) rfl rfl)) rfl rfl hl.1 rfl (lv_room (Nat.le_of_ble_eq_true rfl)) dL_isMinute_570 ⟨Nat.zero_le _, Nat.zero_le _⟩) (fun r9 u9 H locs hr9 hP hD hS => ?_)
    have hr9 : r9 = sD (qσ (qPass q 1)) z := hr9
    subst hr9
    refine lv_bipush (v := nI 100) hx hb dL_isMinute_573 (by decide +kernel) ?_
    refine lv_icmp_ne (tgt := 604) hx hb dL_isMinute_575 (by decide) (fun c9 => absurd (mi_x1 hQ hzz c5 c7) c9) (fun _ => ?_)
    exact im_578 h0 hQ hQ1 hck hp hE hZ hzz kk c5 ρ H locs hP hD hS ls (lv_sub hl [0, 1, 2, 3, 4, 5, 6, 7, 8, 9, 10, 11, 12, 13, 14, 15, 16] rfl)

set_option maxHeartbeats 4000000 in
set_option maxRecDepth 100000 in
theorem im_452 {z : Nat} (h0 : MC p l s m args c D cI cZ cO cJ A) (hQ : QOK q) (hQ1 : QOK (qPass q 1)) (hck : qK q + 1 ≤ 100000) (hp : PR pf q B) (hE : ER ef q) (hZ : ZR zf q) (hzz : z < 6) (kk : ∀ (ρ : HS) (H : Heap) (locs : List Loc), va_P D vwCl (wQ cI cZ cO x a t b (qPass q 1) ρ ++ [(ap, .inl (cI, 6, .inl pf)), (ae, .inl (cI, 48, .inl ef)), (az, .inl (cI, 30, .inl (zM q zf 6)))]) H → va_D A (wQ cI cZ cO x a t b (qPass q 1) ρ ++ [(ap, .inl (cI, 6, .inl pf)), (ae, .inl (cI, 48, .inl ef)), (az, .inl (cI, 30, .inl (zM q zf 6)))]) → va_S A s.heap H locs → ∀ ls : Array Slot, lv_has ls 20 [(0, .ref (x 0)), (1, .ref ae), (2, .ref az), (3, .ref ap), (4, .int (mNot (qli q) (sT (qσ (qPass q 1))) (z + 1))), (7, .int (mNot (qli q) (sT (qσ (qPass q 1))) 6)), (8, .int (nI 1)), (9, .int (nI (z + 1)))] → W p l e rmL_isMinute s m args below meth c H locs 0 0 Q (F0 m 114 ls [])) : ∀ (ρ : HS) (H : Heap) (locs : List Loc), va_P D vwCl (wQ cI cZ cO x a t b (qPass q 1) ρ ++ [(ap, .inl (cI, 6, .inl pf)), (ae, .inl (cI, 48, .inl ef)), (az, .inl (cI, 30, .inl (zM q zf 6)))]) H → va_D A (wQ cI cZ cO x a t b (qPass q 1) ρ ++ [(ap, .inl (cI, 6, .inl pf)), (ae, .inl (cI, 48, .inl ef)), (az, .inl (cI, 30, .inl (zM q zf 6)))]) → va_S A s.heap H locs → ∀ ls : Array Slot, lv_has ls 20 [(8, .int (nI 1)), (4, .int (mNot (qli q) (sT (qσ (qPass q 1))) (z + 1))), (18, .int (mHv (sT (qσ (qPass q 1)) z) (qli q))), (17, .int ((((nI 100) * (qgp q)) * ((sT (qσ q) z) - (qSe q z))) + ((qgi q) * (sE (qσ (qPass q 1)) z)))), (16, .int ((qam q) - (sT (qσ q) z))), (15, .int ((nI 64) * ((((sT (qσ (qPass q 1)) z) - (sT (qσ q) z)) - (qLo q z)) + ((mCo (qEf q) (sS (qσ (qPass q 1))) z 8) / (nI 100))))), (11, .int ((sE (qσ q) z) + ((sT (qσ q) z) - (qSe q z)))), (10, .int ((sT (qσ q) z) - (qSe q z))), (0, .ref (x 0)), (1, .ref ae), (2, .ref az), (3, .ref ap), (7, .int (mNot (qli q) (sT (qσ (qPass q 1))) 6)), (9, .int (nI z)), (12, .int (mCo (qEf q) (sS (qσ (qPass q 1))) z 8)), (13, .int (mFs (sF (qσ q)) (fun f => qEf q f z) 8)), (14, .int (mRun (sF (qσ q)) (fun f => qEf q f z) 8))] → W p l e rmL_isMinute s m args below meth c H locs 0 0 Q (F0 m 452 ls []) := by
  obtain ⟨hx, hb, hml, hts, hown, hK, hN, hX, hC, hA⟩ := id h0
  intro ρ H locs hP hD hS ls hl
  refine lv_iload hx hb dL_isMinute_452 (lv_at hl 15 rfl) ?_
  refine lv_if_ne (tgt := 539) hx hb dL_isMinute_454 (by decide) (fun c5 => ?_) (fun c5 => ?_)
  · refine lv_iload hx hb dL_isMinute_539 (lv_at hl 0 rfl) ?_
    refine lv_if_eq (tgt := 604) hx hb dL_isMinute_541 (by decide) (fun c9 => absurd c9 (by decide +kernel)) (fun _ => ?_)
    refine lv_iload hx hb dL_isMinute_544 (lv_at hl 16 rfl) ?_
    refine lv_if_gt (tgt := 560) hx hb dL_isMinute_546 (by decide) (fun c6 => ?_) (fun c6 => ?_)
    · exact im_560 h0 hQ hQ1 hck hp hE hZ hzz kk c5 ρ H locs hP hD hS ls (lv_sub hl [0, 1, 2, 3, 4, 5, 6, 7, 8, 9, 10, 11, 12, 13, 14, 15, 16] rfl)
    · refine lv_aload_n hx hb dL_isMinute_549 rfl (lv_at hl 8 rfl) ?_
      refine lv_iload hx hb dL_isMinute_550 (lv_at hl 13 rfl) ?_
      refine kCallP_i (mc := 0) (ms := 0) (W1 := fun _ : Unit => wQ cI cZ cO x a t b (qPass q 1) ρ) (fun _ _ h => h) hP hD hS hA (fun _ => rfl) (va_runV (As := [.int (nI z)]) (rest := []) ⟨hx, hb, hml, hown, hts⟩ (c_X2_demand l D cI cZ cO cJ x a t b (qK (qPass q 1)) (qHo (qPass q 1)) (sT (qσ (qPass q 1))) (sE (qσ (qPass q 1))) (sD (qσ (qPass q 1))) (sF (qσ (qPass q 1))) (sS (qσ (qPass q 1))) (sC (qσ (qPass q 1))) (sL (qσ (qPass q 1))) (sT ρ) (sE ρ) (sD ρ) (sF ρ) (sS ρ) (sC ρ) (sL ρ) (qLo (qPass q 1)) (qSe (qPass q 1)) (qEf (qPass q 1)) (qgp (qPass q 1)) (qgi (qPass q 1)) (qam (qPass q 1)) (qli (qPass q 1)) (qdl (qPass q 1)) z H.size (by omega)) (cwV (rm := rmX2_demand) 1 hts gL_isMinute_X2_demand rfl rfl rfl (by decide +kernel) ⟨Nat.le_of_ble_eq_true rfl, Nat.le_of_ble_eq_true rfl⟩) (kPreVW hK hN (pfP hP) (pfD hD) (va_recv hK (pfP hP) (ci := 2) (q0 := 0) rfl rfl)) rfl rfl hl.1 rfl (lv_room (Nat.le_of_ble_eq_true rfl)) dL_isMinute_552 ⟨Nat.zero_le _, Nat.zero_le _⟩) (fun r9 u9 H locs hr9 hP hD hS => ?_)
      have hr9 : r9 = sD (qσ (qPass q 1)) z := hr9
      subst hr9
      refine lv_bipush (v := nI 100) hx hb dL_isMinute_555 (by decide +kernel) ?_
      refine lv_icmp_ne (tgt := 604) hx hb dL_isMinute_557 (by decide) (fun c9 => absurd (mi_x0 hQ hzz c5 c6) c9) (fun _ => ?_)
      exact im_560 h0 hQ hQ1 hck hp hE hZ hzz kk c5 ρ H locs hP hD hS ls (lv_sub hl [0, 1, 2, 3, 4, 5, 6, 7, 8, 9, 10, 11, 12, 13, 14, 15, 16] rfl)
  · refine lv_aload_n hx hb dL_isMinute_457 rfl (lv_at hl 8 rfl) ?_
    refine lv_iload hx hb dL_isMinute_458 (lv_at hl 13 rfl) ?_
    refine kCallP_i (mc := 0) (ms := 0) (W1 := fun _ : Unit => wQ cI cZ cO x a t b (qPass q 1) ρ) (fun _ _ h => h) hP hD hS hA (fun _ => rfl) (va_runV (As := [.int (nI z)]) (rest := []) ⟨hx, hb, hml, hown, hts⟩ (c_X2_demand l D cI cZ cO cJ x a t b (qK (qPass q 1)) (qHo (qPass q 1)) (sT (qσ (qPass q 1))) (sE (qσ (qPass q 1))) (sD (qσ (qPass q 1))) (sF (qσ (qPass q 1))) (sS (qσ (qPass q 1))) (sC (qσ (qPass q 1))) (sL (qσ (qPass q 1))) (sT ρ) (sE ρ) (sD ρ) (sF ρ) (sS ρ) (sC ρ) (sL ρ) (qLo (qPass q 1)) (qSe (qPass q 1)) (qEf (qPass q 1)) (qgp (qPass q 1)) (qgi (qPass q 1)) (qam (qPass q 1)) (qli (qPass q 1)) (qdl (qPass q 1)) z H.size (by omega)) (cwV (rm := rmX2_demand) 1 hts gL_isMinute_X2_demand rfl rfl rfl (by decide +kernel) ⟨Nat.le_of_ble_eq_true rfl, Nat.le_of_ble_eq_true rfl⟩) (kPreVW hK hN (pfP hP) (pfD hD) (va_recv hK (pfP hP) (ci := 2) (q0 := 0) rfl rfl)) rfl rfl hl.1 rfl (lv_room (Nat.le_of_ble_eq_true rfl)) dL_isMinute_460 ⟨Nat.zero_le _, Nat.zero_le _⟩) (fun r9 u9 H locs hr9 hP hD hS => ?_)
    have hr9 : r9 = sD (qσ (qPass q 1)) z := hr9
    subst hr9
    refine lv_istore (lv' := [(19, .int (sD (qσ (qPass q 1)) z)), (8, .int (nI 1)), (4, .int (mNot (qli q) (sT (qσ (qPass q 1))) (z + 1))), (18, .int (mHv (sT (qσ (qPass q 1)) z) (qli q))), (17, .int ((((nI 100) * (qgp q)) * ((sT (qσ q) z) - (qSe q z))) + ((qgi q) * (sE (qσ (qPass q 1)) z)))), (16, .int ((qam q) - (sT (qσ q) z))), (15, .int ((nI 64) * ((((sT (qσ (qPass q 1)) z) - (sT (qσ q) z)) - (qLo q z)) + ((mCo (qEf q) (sS (qσ (qPass q 1))) z 8) / (nI 100))))), (11, .int ((sE (qσ q) z) + ((sT (qσ q) z) - (qSe q z)))), (10, .int ((sT (qσ q) z) - (qSe q z))), (0, .ref (x 0)), (1, .ref ae), (2, .ref az), (3, .ref ap), (7, .int (mNot (qli q) (sT (qσ (qPass q 1))) 6)), (9, .int (nI z)), (12, .int (mCo (qEf q) (sS (qσ (qPass q 1))) z 8)), (13, .int (mFs (sF (qσ q)) (fun f => qEf q f z) 8)), (14, .int (mRun (sF (qσ q)) (fun f => qEf q f z) 8))]) hx hb dL_isMinute_463 hl (by decide) rfl (fun ls hl => ?_)
    refine lv_iload hx hb dL_isMinute_465 (lv_at hl 1 rfl) ?_
    refine lv_if_eq (tgt := 533) hx hb dL_isMinute_467 (by decide) (fun c9 => absurd c9 (by decide +kernel)) (fun _ => ?_)
    refine lv_iload hx hb dL_isMinute_470 (lv_at hl 0 rfl) ?_
    refine lv_if_ne (tgt := 486) hx hb dL_isMinute_472 (by decide) (fun c6 => ?_) (fun c6 => ?_)
    · refine lv_iload hx hb dL_isMinute_486 (lv_at hl 0 rfl) ?_
      refine lv_bipush (v := nI 100) hx hb dL_isMinute_488 (by decide +kernel) ?_
      refine lv_icmp_ne (tgt := 503) hx hb dL_isMinute_490 (by decide) (fun c7 => ?_) (fun c7 => ?_)
      · refine lv_iload hx hb dL_isMinute_503 (lv_at hl 4 rfl) ?_
        refine lv_sipush (v := nI 10000) hx hb dL_isMinute_505 (by decide +kernel) ?_
        refine lv_iload hx hb dL_isMinute_508 (lv_at hl 0 rfl) ?_
        refine lv_imul hx hb dL_isMinute_510 ?_
        refine lv_icmp_lt (tgt := 533) hx hb dL_isMinute_511 (by decide) (fun c9 => absurd c9 (mi_w2 hQ hzz c5 c6 c7).1) (fun _ => ?_)
        refine lv_iload hx hb dL_isMinute_514 (lv_at hl 4 rfl) ?_
        refine lv_sipush (v := nI 10000) hx hb dL_isMinute_516 (by decide +kernel) ?_
        refine lv_iload hx hb dL_isMinute_519 (lv_at hl 0 rfl) ?_
        refine lv_imul hx hb dL_isMinute_521 ?_
        refine lv_sipush (v := nI 10100) hx hb dL_isMinute_522 (by decide +kernel) ?_
        refine lv_iadd hx hb dL_isMinute_525 ?_
        refine lv_icmp_ge (tgt := 533) hx hb dL_isMinute_526 (by decide) (fun c9 => absurd c9 (mi_w2 hQ hzz c5 c6 c7).2) (fun _ => ?_)
        refine lv_iconst (v := nI 1) hx hb dL_isMinute_529 (by decide +kernel) ?_
        refine lv_goto (tgt := 534) hx hb dL_isMinute_530 (by decide) ?_
        refine lv_istore (lv' := [(8, .int (nI 1)), (19, .int (sD (qσ (qPass q 1)) z)), (4, .int (mNot (qli q) (sT (qσ (qPass q 1))) (z + 1))), (18, .int (mHv (sT (qσ (qPass q 1)) z) (qli q))), (17, .int ((((nI 100) * (qgp q)) * ((sT (qσ q) z) - (qSe q z))) + ((qgi q) * (sE (qσ (qPass q 1)) z)))), (16, .int ((qam q) - (sT (qσ q) z))), (15, .int ((nI 64) * ((((sT (qσ (qPass q 1)) z) - (sT (qσ q) z)) - (qLo q z)) + ((mCo (qEf q) (sS (qσ (qPass q 1))) z 8) / (nI 100))))), (11, .int ((sE (qσ q) z) + ((sT (qσ q) z) - (qSe q z)))), (10, .int ((sT (qσ q) z) - (qSe q z))), (0, .ref (x 0)), (1, .ref ae), (2, .ref az), (3, .ref ap), (7, .int (mNot (qli q) (sT (qσ (qPass q 1))) 6)), (9, .int (nI z)), (12, .int (mCo (qEf q) (sS (qσ (qPass q 1))) z 8)), (13, .int (mFs (sF (qσ q)) (fun f => qEf q f z) 8)), (14, .int (mRun (sF (qσ q)) (fun f => qEf q f z) 8))]) hx hb dL_isMinute_534 hl (by decide) rfl (fun ls hl => ?_)
        refine lv_goto (tgt := 607) hx hb dL_isMinute_536 (by decide) ?_
        refine lv_iinc (v := nI (z + 1)) (lv' := [(9, .int (nI (z + 1))), (8, .int (nI 1)), (19, .int (sD (qσ (qPass q 1)) z)), (4, .int (mNot (qli q) (sT (qσ (qPass q 1))) (z + 1))), (18, .int (mHv (sT (qσ (qPass q 1)) z) (qli q))), (17, .int ((((nI 100) * (qgp q)) * ((sT (qσ q) z) - (qSe q z))) + ((qgi q) * (sE (qσ (qPass q 1)) z)))), (16, .int ((qam q) - (sT (qσ q) z))), (15, .int ((nI 64) * ((((sT (qσ (qPass q 1)) z) - (sT (qσ q) z)) - (qLo q z)) + ((mCo (qEf q) (sS (qσ (qPass q 1))) z 8) / (nI 100))))), (11, .int ((sE (qσ q) z) + ((sT (qσ q) z) - (qSe q z)))), (10, .int ((sT (qσ q) z) - (qSe q z))), (0, .ref (x 0)), (1, .ref ae), (2, .ref az), (3, .ref ap), (7, .int (mNot (qli q) (sT (qσ (qPass q 1))) 6)), (12, .int (mCo (qEf q) (sS (qσ (qPass q 1))) z 8)), (13, .int (mFs (sF (qσ q)) (fun f => qEf q f z) 8)), (14, .int (mRun (sF (qσ q)) (fun f => qEf q f z) 8))]) hx hb dL_isMinute_607 hl (k := 14) rfl (k_inc _) (by decide) rfl (fun ls hl => ?_)
        refine lv_goto (tgt := 114) hx hb dL_isMinute_610 (by decide) ?_
        exact kk ρ H locs hP hD hS ls (lv_sub hl [10, 11, 12, 13, 3, 14, 1, 0] rfl)
      · refine lv_iload hx hb dL_isMinute_493 (lv_at hl 4 rfl) ?_
        refine lv_ldc hx hb hown (hts (.constant RL 113 (1000000)) (by decide +kernel)) dL_isMinute_495 ?_
        refine k_as (y := nI 1000000) (by decide +kernel) ?_
        refine lv_icmp_lt (tgt := 533) hx hb dL_isMinute_497 (by decide) (fun c9 => absurd c9 (mi_w1 hQ hzz c5 c7)) (fun _ => ?_)
        refine lv_goto (tgt := 529) hx hb dL_isMinute_500 (by decide) ?_
        refine lv_iconst (v := nI 1) hx hb dL_isMinute_529 (by decide +kernel) ?_
        refine lv_goto (tgt := 534) hx hb dL_isMinute_530 (by decide) ?_
        refine lv_istore (lv' := [(8, .int (nI 1)), (19, .int (sD (qσ (qPass q 1)) z)), (4, .int (mNot (qli q) (sT (qσ (qPass q 1))) (z + 1))), (18, .int (mHv (sT (qσ (qPass q 1)) z) (qli q))), (17, .int ((((nI 100) * (qgp q)) * ((sT (qσ q) z) - (qSe q z))) + ((qgi q) * (sE (qσ (qPass q 1)) z)))), (16, .int ((qam q) - (sT (qσ q) z))), (15, .int ((nI 64) * ((((sT (qσ (qPass q 1)) z) - (sT (qσ q) z)) - (qLo q z)) + ((mCo (qEf q) (sS (qσ (qPass q 1))) z 8) / (nI 100))))), (11, .int ((sE (qσ q) z) + ((sT (qσ q) z) - (qSe q z)))), (10, .int ((sT (qσ q) z) - (qSe q z))), (0, .ref (x 0)), (1, .ref ae), (2, .ref az), (3, .ref ap), (7, .int (mNot (qli q) (sT (qσ (qPass q 1))) 6)), (9, .int (nI z)), (12, .int (mCo (qEf q) (sS (qσ (qPass q 1))) z 8)), (13, .int (mFs (sF (qσ q)) (fun f => qEf q f z) 8)), (14, .int (mRun (sF (qσ q)) (fun f => qEf q f z) 8))]) hx hb dL_isMinute_534 hl (by decide) rfl (fun ls hl => ?_)
        refine lv_goto (tgt := 607) hx hb dL_isMinute_536 (by decide) ?_
        refine lv_iinc (v := nI (z + 1)) (lv' := [(9, .int (nI (z + 1))), (8, .int (nI 1)), (19, .int (sD (qσ (qPass q 1)) z)), (4, .int (mNot (qli q) (sT (qσ (qPass q 1))) (z + 1))), (18, .int (mHv (sT (qσ (qPass q 1)) z) (qli q))), (17, .int ((((nI 100) * (qgp q)) * ((sT (qσ q) z) - (qSe q z))) + ((qgi q) * (sE (qσ (qPass q 1)) z)))), (16, .int ((qam q) - (sT (qσ q) z))), (15, .int ((nI 64) * ((((sT (qσ (qPass q 1)) z) - (sT (qσ q) z)) - (qLo q z)) + ((mCo (qEf q) (sS (qσ (qPass q 1))) z 8) / (nI 100))))), (11, .int ((sE (qσ q) z) + ((sT (qσ q) z) - (qSe q z)))), (10, .int ((sT (qσ q) z) - (qSe q z))), (0, .ref (x 0)), (1, .ref ae), (2, .ref az), (3, .ref ap), (7, .int (mNot (qli q) (sT (qσ (qPass q 1))) 6)), (12, .int (mCo (qEf q) (sS (qσ (qPass q 1))) z 8)), (13, .int (mFs (sF (qσ q)) (fun f => qEf q f z) 8)), (14, .int (mRun (sF (qσ q)) (fun f => qEf q f z) 8))]) hx hb dL_isMinute_607 hl (k := 14) rfl (k_inc _) (by decide) rfl (fun ls hl => ?_)
        refine lv_goto (tgt := 114) hx hb dL_isMinute_610 (by decide) ?_
        exact kk ρ H locs hP hD hS ls (lv_sub hl [10, 11, 12, 13, 3, 14, 1, 0] rfl)
    · refine lv_iload hx hb dL_isMinute_475 (lv_at hl 4 rfl) ?_
      refine lv_sipush (v := nI 10100) hx hb dL_isMinute_477 (by decide +kernel) ?_
      refine lv_icmp_ge (tgt := 533) hx hb dL_isMinute_480 (by decide) (fun c9 => absurd c9 (mi_w0 hQ hzz c5 c6)) (fun _ => ?_)
      refine lv_goto (tgt := 529) hx hb dL_isMinute_483 (by decide) ?_
      refine lv_iconst (v := nI 1) hx hb dL_isMinute_529 (by decide +kernel) ?_
      refine lv_goto (tgt := 534) hx hb dL_isMinute_530 (by decide) ?_
      refine lv_istore (lv' := [(8, .int (nI 1)), (19, .int (sD (qσ (qPass q 1)) z)), (4, .int (mNot (qli q) (sT (qσ (qPass q 1))) (z + 1))), (18, .int (mHv (sT (qσ (qPass q 1)) z) (qli q))), (17, .int ((((nI 100) * (qgp q)) * ((sT (qσ q) z) - (qSe q z))) + ((qgi q) * (sE (qσ (qPass q 1)) z)))), (16, .int ((qam q) - (sT (qσ q) z))), (15, .int ((nI 64) * ((((sT (qσ (qPass q 1)) z) - (sT (qσ q) z)) - (qLo q z)) + ((mCo (qEf q) (sS (qσ (qPass q 1))) z 8) / (nI 100))))), (11, .int ((sE (qσ q) z) + ((sT (qσ q) z) - (qSe q z)))), (10, .int ((sT (qσ q) z) - (qSe q z))), (0, .ref (x 0)), (1, .ref ae), (2, .ref az), (3, .ref ap), (7, .int (mNot (qli q) (sT (qσ (qPass q 1))) 6)), (9, .int (nI z)), (12, .int (mCo (qEf q) (sS (qσ (qPass q 1))) z 8)), (13, .int (mFs (sF (qσ q)) (fun f => qEf q f z) 8)), (14, .int (mRun (sF (qσ q)) (fun f => qEf q f z) 8))]) hx hb dL_isMinute_534 hl (by decide) rfl (fun ls hl => ?_)
      refine lv_goto (tgt := 607) hx hb dL_isMinute_536 (by decide) ?_
      refine lv_iinc (v := nI (z + 1)) (lv' := [(9, .int (nI (z + 1))), (8, .int (nI 1)), (19, .int (sD (qσ (qPass q 1)) z)), (4, .int (mNot (qli q) (sT (qσ (qPass q 1))) (z + 1))), (18, .int (mHv (sT (qσ (qPass q 1)) z) (qli q))), (17, .int ((((nI 100) * (qgp q)) * ((sT (qσ q) z) - (qSe q z))) + ((qgi q) * (sE (qσ (qPass q 1)) z)))), (16, .int ((qam q) - (sT (qσ q) z))), (15, .int ((nI 64) * ((((sT (qσ (qPass q 1)) z) - (sT (qσ q) z)) - (qLo q z)) + ((mCo (qEf q) (sS (qσ (qPass q 1))) z 8) / (nI 100))))), (11, .int ((sE (qσ q) z) + ((sT (qσ q) z) - (qSe q z)))), (10, .int ((sT (qσ q) z) - (qSe q z))), (0, .ref (x 0)), (1, .ref ae), (2, .ref az), (3, .ref ap), (7, .int (mNot (qli q) (sT (qσ (qPass q 1))) 6)), (12, .int (mCo (qEf q) (sS (qσ (qPass q 1))) z 8)), (13, .int (mFs (sF (qσ q)) (fun f => qEf q f z) 8)), (14, .int (mRun (sF (qσ q)) (fun f => qEf q f z) 8))]) hx hb dL_isMinute_607 hl (k := 14) rfl (k_inc _) (by decide) rfl (fun ls hl => ?_)
      refine lv_goto (tgt := 114) hx hb dL_isMinute_610 (by decide) ?_
      exact kk ρ H locs hP hD hS ls (lv_sub hl [10, 11, 12, 13, 3, 14, 1, 0] rfl)

set_option maxHeartbeats 4000000 in
set_option maxRecDepth 100000 in
theorem im_441 {z : Nat} (h0 : MC p l s m args c D cI cZ cO cJ A) (hQ : QOK q) (hQ1 : QOK (qPass q 1)) (hck : qK q + 1 ≤ 100000) (hp : PR pf q B) (hE : ER ef q) (hZ : ZR zf q) (hzz : z < 6) (kk : ∀ (ρ : HS) (H : Heap) (locs : List Loc), va_P D vwCl (wQ cI cZ cO x a t b (qPass q 1) ρ ++ [(ap, .inl (cI, 6, .inl pf)), (ae, .inl (cI, 48, .inl ef)), (az, .inl (cI, 30, .inl (zM q zf 6)))]) H → va_D A (wQ cI cZ cO x a t b (qPass q 1) ρ ++ [(ap, .inl (cI, 6, .inl pf)), (ae, .inl (cI, 48, .inl ef)), (az, .inl (cI, 30, .inl (zM q zf 6)))]) → va_S A s.heap H locs → ∀ ls : Array Slot, lv_has ls 20 [(0, .ref (x 0)), (1, .ref ae), (2, .ref az), (3, .ref ap), (4, .int (mNot (qli q) (sT (qσ (qPass q 1))) (z + 1))), (7, .int (mNot (qli q) (sT (qσ (qPass q 1))) 6)), (8, .int (nI 1)), (9, .int (nI (z + 1)))] → W p l e rmL_isMinute s m args below meth c H locs 0 0 Q (F0 m 114 ls [])) : ∀ (ρ : HS) (H : Heap) (locs : List Loc), va_P D vwCl (wQ cI cZ cO x a t b (qPass q 1) ρ ++ [(ap, .inl (cI, 6, .inl pf)), (ae, .inl (cI, 48, .inl ef)), (az, .inl (cI, 30, .inl (zM q zf 6)))]) H → va_D A (wQ cI cZ cO x a t b (qPass q 1) ρ ++ [(ap, .inl (cI, 6, .inl pf)), (ae, .inl (cI, 48, .inl ef)), (az, .inl (cI, 30, .inl (zM q zf 6)))]) → va_S A s.heap H locs → ∀ ls : Array Slot, lv_has ls 20 [(4, .int (mNot (qli q) (sT (qσ (qPass q 1))) (z + 1))), (18, .int (mHv (sT (qσ (qPass q 1)) z) (qli q))), (17, .int ((((nI 100) * (qgp q)) * ((sT (qσ q) z) - (qSe q z))) + ((qgi q) * (sE (qσ (qPass q 1)) z)))), (16, .int ((qam q) - (sT (qσ q) z))), (15, .int ((nI 64) * ((((sT (qσ (qPass q 1)) z) - (sT (qσ q) z)) - (qLo q z)) + ((mCo (qEf q) (sS (qσ (qPass q 1))) z 8) / (nI 100))))), (11, .int ((sE (qσ q) z) + ((sT (qσ q) z) - (qSe q z)))), (10, .int ((sT (qσ q) z) - (qSe q z))), (0, .ref (x 0)), (1, .ref ae), (2, .ref az), (3, .ref ap), (7, .int (mNot (qli q) (sT (qσ (qPass q 1))) 6)), (8, .int (nI 1)), (9, .int (nI z)), (12, .int (mCo (qEf q) (sS (qσ (qPass q 1))) z 8)), (13, .int (mFs (sF (qσ q)) (fun f => qEf q f z) 8)), (14, .int (mRun (sF (qσ q)) (fun f => qEf q f z) 8))] → W p l e rmL_isMinute s m args below meth c H locs 0 0 Q (F0 m 441 ls [.int (mHv (sT (qσ (qPass q 1)) z) (qli q)), .int (qHo q z), .int (qHo (qPass q 1) z)]) := by
  obtain ⟨hx, hb, hml, hts, hown, hK, hN, hX, hC, hA⟩ := id h0
  intro ρ H locs hP hD hS ls hl
  refine lv_iadd hx hb dL_isMinute_441 ?_
  refine lv_icmp_ne (tgt := 449) hx hb dL_isMinute_442 (by decide) (fun c9 => absurd (mi_Ho hzz).symm c9) (fun _ => ?_)
  refine lv_iconst (v := nI 1) hx hb dL_isMinute_445 (by decide +kernel) ?_
  refine lv_goto (tgt := 450) hx hb dL_isMinute_446 (by decide) ?_
  refine lv_istore (lv' := [(8, .int (nI 1)), (4, .int (mNot (qli q) (sT (qσ (qPass q 1))) (z + 1))), (18, .int (mHv (sT (qσ (qPass q 1)) z) (qli q))), (17, .int ((((nI 100) * (qgp q)) * ((sT (qσ q) z) - (qSe q z))) + ((qgi q) * (sE (qσ (qPass q 1)) z)))), (16, .int ((qam q) - (sT (qσ q) z))), (15, .int ((nI 64) * ((((sT (qσ (qPass q 1)) z) - (sT (qσ q) z)) - (qLo q z)) + ((mCo (qEf q) (sS (qσ (qPass q 1))) z 8) / (nI 100))))), (11, .int ((sE (qσ q) z) + ((sT (qσ q) z) - (qSe q z)))), (10, .int ((sT (qσ q) z) - (qSe q z))), (0, .ref (x 0)), (1, .ref ae), (2, .ref az), (3, .ref ap), (7, .int (mNot (qli q) (sT (qσ (qPass q 1))) 6)), (9, .int (nI z)), (12, .int (mCo (qEf q) (sS (qσ (qPass q 1))) z 8)), (13, .int (mFs (sF (qσ q)) (fun f => qEf q f z) 8)), (14, .int (mRun (sF (qσ q)) (fun f => qEf q f z) 8))]) hx hb dL_isMinute_450 hl (by decide) rfl (fun ls hl => ?_)
  exact im_452 h0 hQ hQ1 hck hp hE hZ hzz kk ρ H locs hP hD hS ls (lv_sub hl [0, 1, 2, 3, 4, 5, 6, 7, 8, 9, 10, 11, 12, 13, 14, 15, 16] rfl)

set_option maxHeartbeats 4000000 in
set_option maxRecDepth 100000 in
theorem im_415 {z : Nat} (h0 : MC p l s m args c D cI cZ cO cJ A) (hQ : QOK q) (hQ1 : QOK (qPass q 1)) (hck : qK q + 1 ≤ 100000) (hp : PR pf q B) (hE : ER ef q) (hZ : ZR zf q) (hzz : z < 6) (kk : ∀ (ρ : HS) (H : Heap) (locs : List Loc), va_P D vwCl (wQ cI cZ cO x a t b (qPass q 1) ρ ++ [(ap, .inl (cI, 6, .inl pf)), (ae, .inl (cI, 48, .inl ef)), (az, .inl (cI, 30, .inl (zM q zf 6)))]) H → va_D A (wQ cI cZ cO x a t b (qPass q 1) ρ ++ [(ap, .inl (cI, 6, .inl pf)), (ae, .inl (cI, 48, .inl ef)), (az, .inl (cI, 30, .inl (zM q zf 6)))]) → va_S A s.heap H locs → ∀ ls : Array Slot, lv_has ls 20 [(0, .ref (x 0)), (1, .ref ae), (2, .ref az), (3, .ref ap), (4, .int (mNot (qli q) (sT (qσ (qPass q 1))) (z + 1))), (7, .int (mNot (qli q) (sT (qσ (qPass q 1))) 6)), (8, .int (nI 1)), (9, .int (nI (z + 1)))] → W p l e rmL_isMinute s m args below meth c H locs 0 0 Q (F0 m 114 ls [])) : ∀ (ρ : HS) (H : Heap) (locs : List Loc), va_P D vwCl (wQ cI cZ cO x a t b (qPass q 1) ρ ++ [(ap, .inl (cI, 6, .inl pf)), (ae, .inl (cI, 48, .inl ef)), (az, .inl (cI, 30, .inl (zM q zf 6)))]) H → va_D A (wQ cI cZ cO x a t b (qPass q 1) ρ ++ [(ap, .inl (cI, 6, .inl pf)), (ae, .inl (cI, 48, .inl ef)), (az, .inl (cI, 30, .inl (zM q zf 6)))]) → va_S A s.heap H locs → ∀ ls : Array Slot, lv_has ls 20 [(4, .int (mNot (qli q) (sT (qσ (qPass q 1))) (z + 1))), (18, .int (mHv (sT (qσ (qPass q 1)) z) (qli q))), (17, .int ((((nI 100) * (qgp q)) * ((sT (qσ q) z) - (qSe q z))) + ((qgi q) * (sE (qσ (qPass q 1)) z)))), (16, .int ((qam q) - (sT (qσ q) z))), (15, .int ((nI 64) * ((((sT (qσ (qPass q 1)) z) - (sT (qσ q) z)) - (qLo q z)) + ((mCo (qEf q) (sS (qσ (qPass q 1))) z 8) / (nI 100))))), (11, .int ((sE (qσ q) z) + ((sT (qσ q) z) - (qSe q z)))), (10, .int ((sT (qσ q) z) - (qSe q z))), (0, .ref (x 0)), (1, .ref ae), (2, .ref az), (3, .ref ap), (7, .int (mNot (qli q) (sT (qσ (qPass q 1))) 6)), (8, .int (nI 1)), (9, .int (nI z)), (12, .int (mCo (qEf q) (sS (qσ (qPass q 1))) z 8)), (13, .int (mFs (sF (qσ q)) (fun f => qEf q f z) 8)), (14, .int (mRun (sF (qσ q)) (fun f => qEf q f z) 8))] → W p l e rmL_isMinute s m args below meth c H locs 0 0 Q (F0 m 415 ls [.int (sE (qσ (qPass q 1)) z), .int (sE (qσ (qPass q 1)) z)]) := by
  obtain ⟨hx, hb, hml, hts, hown, hK, hN, hX, hC, hA⟩ := id h0
  intro ρ H locs hP hD hS ls hl
  refine lv_icmp_ne (tgt := 449) hx hb dL_isMinute_415 (by decide) (fun c9 => absurd rfl c9) (fun _ => ?_)
  refine lv_aload_n hx hb dL_isMinute_418 rfl (lv_at hl 7 rfl) ?_
  refine lv_iload hx hb dL_isMinute_419 (lv_at hl 13 rfl) ?_
  refine kCallP_i (mc := 0) (ms := 0) (W1 := fun _ : Unit => wQ cI cZ cO x a t b (qPass q 1) ρ) (fun _ _ h => h) hP hD hS hA (fun _ => rfl) (va_runV (As := [.int (nI z)]) (rest := []) ⟨hx, hb, hml, hown, hts⟩ (c_X2_hotMinutes l D cI cZ cO cJ x a t b (qK (qPass q 1)) (qHo (qPass q 1)) (sT (qσ (qPass q 1))) (sE (qσ (qPass q 1))) (sD (qσ (qPass q 1))) (sF (qσ (qPass q 1))) (sS (qσ (qPass q 1))) (sC (qσ (qPass q 1))) (sL (qσ (qPass q 1))) (sT ρ) (sE ρ) (sD ρ) (sF ρ) (sS ρ) (sC ρ) (sL ρ) (qLo (qPass q 1)) (qSe (qPass q 1)) (qEf (qPass q 1)) (qgp (qPass q 1)) (qgi (qPass q 1)) (qam (qPass q 1)) (qli (qPass q 1)) (qdl (qPass q 1)) z H.size (by omega)) (cwV (rm := rmX2_hotMinutes) 1 hts gL_isMinute_X2_hotMinutes rfl rfl rfl (by decide +kernel) ⟨Nat.le_of_ble_eq_true rfl, Nat.le_of_ble_eq_true rfl⟩) (kPreVW hK hN (pfP hP) (pfD hD) (va_recv hK (pfP hP) (ci := 2) (q0 := 0) rfl rfl)) rfl rfl hl.1 rfl (lv_room (Nat.le_of_ble_eq_true rfl)) dL_isMinute_421 ⟨Nat.zero_le _, Nat.zero_le _⟩) (fun r9 u9 H locs hr9 hP hD hS => ?_)
  have hr9 : r9 = qHo (qPass q 1) z := hr9
  subst hr9
  refine lv_aload_n hx hb dL_isMinute_424 rfl (lv_at hl 9 rfl) ?_
  refine lv_bipush (v := nI 24) hx hb dL_isMinute_425 (by decide +kernel) ?_
  refine lv_iload hx hb dL_isMinute_427 (lv_at hl 13 rfl) ?_
  refine lv_iadd hx hb dL_isMinute_429 ?_
  refine k_as (nI_add _ _) ?_
  refine k_ialdT hx hb hK hP 2 0 rfl rfl (i := 24 + z) (by omega) (by decide) dL_isMinute_430 ?_
  refine k_as (y := qHo q z) (zM_H q zf 6 (Nat.le_refl 6) hzz) ?_
  refine lv_iload hx hb dL_isMinute_431 (lv_at hl 1 rfl) ?_
  refine lv_if_eq (tgt := 440) hx hb dL_isMinute_433 (by decide) (fun c2 => ?_) (fun c2 => ?_)
  · refine lv_iconst (v := nI 0) hx hb dL_isMinute_440 (by decide +kernel) ?_
    refine k_as (y := mHv (sT (qσ (qPass q 1)) z) (qli q)) (nI_0.trans c2.symm) ?_
    exact im_441 h0 hQ hQ1 hck hp hE hZ hzz kk ρ H locs hP hD hS ls (lv_sub hl [0, 1, 2, 3, 4, 5, 6, 7, 8, 9, 10, 11, 12, 13, 14, 15, 16] rfl)
  · refine lv_iconst (v := nI 1) hx hb dL_isMinute_436 (by decide +kernel) ?_
    refine k_as (y := mHv (sT (qσ (qPass q 1)) z) (qli q)) (mHv_1 c2) ?_
    refine lv_goto (tgt := 441) hx hb dL_isMinute_437 (by decide) ?_
    exact im_441 h0 hQ hQ1 hck hp hE hZ hzz kk ρ H locs hP hD hS ls (lv_sub hl [0, 1, 2, 3, 4, 5, 6, 7, 8, 9, 10, 11, 12, 13, 14, 15, 16] rfl)

set_option maxHeartbeats 4000000 in
set_option maxRecDepth 100000 in
theorem im_359 {z : Nat} (h0 : MC p l s m args c D cI cZ cO cJ A) (hQ : QOK q) (hQ1 : QOK (qPass q 1)) (hck : qK q + 1 ≤ 100000) (hp : PR pf q B) (hE : ER ef q) (hZ : ZR zf q) (hzz : z < 6) (kk : ∀ (ρ : HS) (H : Heap) (locs : List Loc), va_P D vwCl (wQ cI cZ cO x a t b (qPass q 1) ρ ++ [(ap, .inl (cI, 6, .inl pf)), (ae, .inl (cI, 48, .inl ef)), (az, .inl (cI, 30, .inl (zM q zf 6)))]) H → va_D A (wQ cI cZ cO x a t b (qPass q 1) ρ ++ [(ap, .inl (cI, 6, .inl pf)), (ae, .inl (cI, 48, .inl ef)), (az, .inl (cI, 30, .inl (zM q zf 6)))]) → va_S A s.heap H locs → ∀ ls : Array Slot, lv_has ls 20 [(0, .ref (x 0)), (1, .ref ae), (2, .ref az), (3, .ref ap), (4, .int (mNot (qli q) (sT (qσ (qPass q 1))) (z + 1))), (7, .int (mNot (qli q) (sT (qσ (qPass q 1))) 6)), (8, .int (nI 1)), (9, .int (nI (z + 1)))] → W p l e rmL_isMinute s m args below meth c H locs 0 0 Q (F0 m 114 ls [])) : ∀ (ρ : HS) (H : Heap) (locs : List Loc), va_P D vwCl (wQ cI cZ cO x a t b (qPass q 1) ρ ++ [(ap, .inl (cI, 6, .inl pf)), (ae, .inl (cI, 48, .inl ef)), (az, .inl (cI, 30, .inl (zM q zf 6)))]) H → va_D A (wQ cI cZ cO x a t b (qPass q 1) ρ ++ [(ap, .inl (cI, 6, .inl pf)), (ae, .inl (cI, 48, .inl ef)), (az, .inl (cI, 30, .inl (zM q zf 6)))]) → va_S A s.heap H locs → ∀ ls : Array Slot, lv_has ls 20 [(18, .int (mHv (sT (qσ (qPass q 1)) z) (qli q))), (17, .int ((((nI 100) * (qgp q)) * ((sT (qσ q) z) - (qSe q z))) + ((qgi q) * (sE (qσ (qPass q 1)) z)))), (16, .int ((qam q) - (sT (qσ q) z))), (15, .int ((nI 64) * ((((sT (qσ (qPass q 1)) z) - (sT (qσ q) z)) - (qLo q z)) + ((mCo (qEf q) (sS (qσ (qPass q 1))) z 8) / (nI 100))))), (11, .int ((sE (qσ q) z) + ((sT (qσ q) z) - (qSe q z)))), (10, .int ((sT (qσ q) z) - (qSe q z))), (0, .ref (x 0)), (1, .ref ae), (2, .ref az), (3, .ref ap), (4, .int (mNot (qli q) (sT (qσ (qPass q 1))) z)), (7, .int (mNot (qli q) (sT (qσ (qPass q 1))) 6)), (8, .int (nI 1)), (9, .int (nI z)), (12, .int (mCo (qEf q) (sS (qσ (qPass q 1))) z 8)), (13, .int (mFs (sF (qσ q)) (fun f => qEf q f z) 8)), (14, .int (mRun (sF (qσ q)) (fun f => qEf q f z) 8))] → W p l e rmL_isMinute s m args below meth c H locs 0 0 Q (F0 m 359 ls [.int (mHv (sT (qσ (qPass q 1)) z) (qli q)), .int (mNot (qli q) (sT (qσ (qPass q 1))) z)]) := by
  obtain ⟨hx, hb, hml, hts, hown, hK, hN, hX, hC, hA⟩ := id h0
  intro ρ H locs hP hD hS ls hl
  refine lv_iadd hx hb dL_isMinute_359 ?_
  refine k_as (y := mNot (qli q) (sT (qσ (qPass q 1))) (z + 1)) (mNot_h _ _ z) ?_
  refine lv_istore (lv' := [(4, .int (mNot (qli q) (sT (qσ (qPass q 1))) (z + 1))), (18, .int (mHv (sT (qσ (qPass q 1)) z) (qli q))), (17, .int ((((nI 100) * (qgp q)) * ((sT (qσ q) z) - (qSe q z))) + ((qgi q) * (sE (qσ (qPass q 1)) z)))), (16, .int ((qam q) - (sT (qσ q) z))), (15, .int ((nI 64) * ((((sT (qσ (qPass q 1)) z) - (sT (qσ q) z)) - (qLo q z)) + ((mCo (qEf q) (sS (qσ (qPass q 1))) z 8) / (nI 100))))), (11, .int ((sE (qσ q) z) + ((sT (qσ q) z) - (qSe q z)))), (10, .int ((sT (qσ q) z) - (qSe q z))), (0, .ref (x 0)), (1, .ref ae), (2, .ref az), (3, .ref ap), (7, .int (mNot (qli q) (sT (qσ (qPass q 1))) 6)), (8, .int (nI 1)), (9, .int (nI z)), (12, .int (mCo (qEf q) (sS (qσ (qPass q 1))) z 8)), (13, .int (mFs (sF (qσ q)) (fun f => qEf q f z) 8)), (14, .int (mRun (sF (qσ q)) (fun f => qEf q f z) 8))]) hx hb dL_isMinute_360 hl (by decide) rfl (fun ls hl => ?_)
  refine lv_iload hx hb dL_isMinute_362 (lv_at hl 4 rfl) ?_
  refine lv_iload hx hb dL_isMinute_364 (lv_at hl 3 rfl) ?_
  refine lv_icmp_gt (tgt := 449) hx hb dL_isMinute_366 (by decide) (fun c9 => absurd c9 (mi_drift hQ hzz).1) (fun _ => ?_)
  refine lv_iload hx hb dL_isMinute_369 (lv_at hl 4 rfl) ?_
  refine lv_iload hx hb dL_isMinute_371 (lv_at hl 3 rfl) ?_
  refine lv_bipush (v := nI 64) hx hb dL_isMinute_373 (by decide +kernel) ?_
  refine lv_isub hx hb dL_isMinute_375 ?_
  refine lv_icmp_le (tgt := 449) hx hb dL_isMinute_376 (by decide) (fun c9 => absurd c9 (mi_drift hQ hzz).2) (fun _ => ?_)
  refine lv_aload_n hx hb dL_isMinute_379 rfl (lv_at hl 7 rfl) ?_
  refine lv_iload hx hb dL_isMinute_380 (lv_at hl 13 rfl) ?_
  refine kCallP_i (mc := 0) (ms := 0) (W1 := fun _ : Unit => wQ cI cZ cO x a t b (qPass q 1) ρ) (fun _ _ h => h) hP hD hS hA (fun _ => rfl) (va_runV (As := [.int (nI z)]) (rest := []) ⟨hx, hb, hml, hown, hts⟩ (c_X2_errors l D cI cZ cO cJ x a t b (qK (qPass q 1)) (qHo (qPass q 1)) (sT (qσ (qPass q 1))) (sE (qσ (qPass q 1))) (sD (qσ (qPass q 1))) (sF (qσ (qPass q 1))) (sS (qσ (qPass q 1))) (sC (qσ (qPass q 1))) (sL (qσ (qPass q 1))) (sT ρ) (sE ρ) (sD ρ) (sF ρ) (sS ρ) (sC ρ) (sL ρ) (qLo (qPass q 1)) (qSe (qPass q 1)) (qEf (qPass q 1)) (qgp (qPass q 1)) (qgi (qPass q 1)) (qam (qPass q 1)) (qli (qPass q 1)) (qdl (qPass q 1)) z H.size (by omega)) (cwV (rm := rmX2_errors) 1 hts gL_isMinute_X2_errors rfl rfl rfl (by decide +kernel) ⟨Nat.le_of_ble_eq_true rfl, Nat.le_of_ble_eq_true rfl⟩) (kPreVW hK hN (pfP hP) (pfD hD) (va_recv hK (pfP hP) (ci := 2) (q0 := 0) rfl rfl)) rfl rfl hl.1 rfl (lv_room (Nat.le_of_ble_eq_true rfl)) dL_isMinute_382 ⟨Nat.zero_le _, Nat.zero_le _⟩) (fun r9 u9 H locs hr9 hP hD hS => ?_)
  have hr9 : r9 = sE (qσ (qPass q 1)) z := hr9
  subst hr9
  refine lv_iload hx hb dL_isMinute_385 (lv_at hl 5 rfl) ?_
  refine lv_sipush (v := nI 20000) hx hb dL_isMinute_387 (by decide +kernel) ?_
  refine lv_icmp_le (tgt := 399) hx hb dL_isMinute_390 (by decide) (fun c3 => ?_) (fun c3 => ?_)
  · refine lv_iload hx hb dL_isMinute_399 (lv_at hl 5 rfl) ?_
    refine lv_sipush (v := (-20000)) hx hb dL_isMinute_401 (by decide +kernel) ?_
    refine lv_icmp_ge (tgt := 413) hx hb dL_isMinute_404 (by decide) (fun c4 => ?_) (fun c4 => ?_)
    · refine lv_iload hx hb dL_isMinute_413 (lv_at hl 5 rfl) ?_
      refine k_as (y := sE (qσ (qPass q 1)) z) (mi_err3 hzz c3 c4) ?_
      exact im_415 h0 hQ hQ1 hck hp hE hZ hzz kk ρ H locs hP hD hS ls (lv_sub hl [0, 1, 2, 3, 4, 5, 6, 7, 8, 9, 10, 11, 12, 13, 14, 15, 16] rfl)
    · refine lv_sipush (v := (-20000)) hx hb dL_isMinute_407 (by decide +kernel) ?_
      refine k_as (y := sE (qσ (qPass q 1)) z) (mi_err2 hzz c4) ?_
      refine lv_goto (tgt := 415) hx hb dL_isMinute_410 (by decide) ?_
      exact im_415 h0 hQ hQ1 hck hp hE hZ hzz kk ρ H locs hP hD hS ls (lv_sub hl [0, 1, 2, 3, 4, 5, 6, 7, 8, 9, 10, 11, 12, 13, 14, 15, 16] rfl)
  · refine lv_sipush (v := nI 20000) hx hb dL_isMinute_393 (by decide +kernel) ?_
    refine k_as (y := sE (qσ (qPass q 1)) z) (mi_err1 hzz c3) ?_
    refine lv_goto (tgt := 415) hx hb dL_isMinute_396 (by decide) ?_
    exact im_415 h0 hQ hQ1 hck hp hE hZ hzz kk ρ H locs hP hD hS ls (lv_sub hl [0, 1, 2, 3, 4, 5, 6, 7, 8, 9, 10, 11, 12, 13, 14, 15, 16] rfl)

set_option maxHeartbeats 4000000 in
set_option maxRecDepth 100000 in
theorem im_345 {z : Nat} (h0 : MC p l s m args c D cI cZ cO cJ A) (hQ : QOK q) (hQ1 : QOK (qPass q 1)) (hck : qK q + 1 ≤ 100000) (hp : PR pf q B) (hE : ER ef q) (hZ : ZR zf q) (hzz : z < 6) (kk : ∀ (ρ : HS) (H : Heap) (locs : List Loc), va_P D vwCl (wQ cI cZ cO x a t b (qPass q 1) ρ ++ [(ap, .inl (cI, 6, .inl pf)), (ae, .inl (cI, 48, .inl ef)), (az, .inl (cI, 30, .inl (zM q zf 6)))]) H → va_D A (wQ cI cZ cO x a t b (qPass q 1) ρ ++ [(ap, .inl (cI, 6, .inl pf)), (ae, .inl (cI, 48, .inl ef)), (az, .inl (cI, 30, .inl (zM q zf 6)))]) → va_S A s.heap H locs → ∀ ls : Array Slot, lv_has ls 20 [(0, .ref (x 0)), (1, .ref ae), (2, .ref az), (3, .ref ap), (4, .int (mNot (qli q) (sT (qσ (qPass q 1))) (z + 1))), (7, .int (mNot (qli q) (sT (qσ (qPass q 1))) 6)), (8, .int (nI 1)), (9, .int (nI (z + 1)))] → W p l e rmL_isMinute s m args below meth c H locs 0 0 Q (F0 m 114 ls [])) : ∀ (ρ : HS) (H : Heap) (locs : List Loc), va_P D vwCl (wQ cI cZ cO x a t b (qPass q 1) ρ ++ [(ap, .inl (cI, 6, .inl pf)), (ae, .inl (cI, 48, .inl ef)), (az, .inl (cI, 30, .inl (zM q zf 6)))]) H → va_D A (wQ cI cZ cO x a t b (qPass q 1) ρ ++ [(ap, .inl (cI, 6, .inl pf)), (ae, .inl (cI, 48, .inl ef)), (az, .inl (cI, 30, .inl (zM q zf 6)))]) → va_S A s.heap H locs → ∀ ls : Array Slot, lv_has ls 20 [(17, .int ((((nI 100) * (qgp q)) * ((sT (qσ q) z) - (qSe q z))) + ((qgi q) * (sE (qσ (qPass q 1)) z)))), (16, .int ((qam q) - (sT (qσ q) z))), (15, .int ((nI 64) * ((((sT (qσ (qPass q 1)) z) - (sT (qσ q) z)) - (qLo q z)) + ((mCo (qEf q) (sS (qσ (qPass q 1))) z 8) / (nI 100))))), (11, .int ((sE (qσ q) z) + ((sT (qσ q) z) - (qSe q z)))), (10, .int ((sT (qσ q) z) - (qSe q z))), (0, .ref (x 0)), (1, .ref ae), (2, .ref az), (3, .ref ap), (4, .int (mNot (qli q) (sT (qσ (qPass q 1))) z)), (7, .int (mNot (qli q) (sT (qσ (qPass q 1))) 6)), (8, .int (nI 1)), (9, .int (nI z)), (12, .int (mCo (qEf q) (sS (qσ (qPass q 1))) z 8)), (13, .int (mFs (sF (qσ q)) (fun f => qEf q f z) 8)), (14, .int (mRun (sF (qσ q)) (fun f => qEf q f z) 8))] → W p l e rmL_isMinute s m args below meth c H locs 0 0 Q (F0 m 345 ls [.int (mHv (sT (qσ (qPass q 1)) z) (qli q))]) := by
  obtain ⟨hx, hb, hml, hts, hown, hK, hN, hX, hC, hA⟩ := id h0
  intro ρ H locs hP hD hS ls hl
  refine lv_istore (lv' := [(18, .int (mHv (sT (qσ (qPass q 1)) z) (qli q))), (17, .int ((((nI 100) * (qgp q)) * ((sT (qσ q) z) - (qSe q z))) + ((qgi q) * (sE (qσ (qPass q 1)) z)))), (16, .int ((qam q) - (sT (qσ q) z))), (15, .int ((nI 64) * ((((sT (qσ (qPass q 1)) z) - (sT (qσ q) z)) - (qLo q z)) + ((mCo (qEf q) (sS (qσ (qPass q 1))) z 8) / (nI 100))))), (11, .int ((sE (qσ q) z) + ((sT (qσ q) z) - (qSe q z)))), (10, .int ((sT (qσ q) z) - (qSe q z))), (0, .ref (x 0)), (1, .ref ae), (2, .ref az), (3, .ref ap), (4, .int (mNot (qli q) (sT (qσ (qPass q 1))) z)), (7, .int (mNot (qli q) (sT (qσ (qPass q 1))) 6)), (8, .int (nI 1)), (9, .int (nI z)), (12, .int (mCo (qEf q) (sS (qσ (qPass q 1))) z 8)), (13, .int (mFs (sF (qσ q)) (fun f => qEf q f z) 8)), (14, .int (mRun (sF (qσ q)) (fun f => qEf q f z) 8))]) hx hb dL_isMinute_345 hl (by decide) rfl (fun ls hl => ?_)
  refine lv_iload hx hb dL_isMinute_347 (lv_at hl 10 rfl) ?_
  refine lv_iload hx hb dL_isMinute_349 (lv_at hl 0 rfl) ?_
  refine lv_if_eq (tgt := 358) hx hb dL_isMinute_351 (by decide) (fun c2 => ?_) (fun c2 => ?_)
  · refine lv_iconst (v := nI 0) hx hb dL_isMinute_358 (by decide +kernel) ?_
    refine k_as (y := mHv (sT (qσ (qPass q 1)) z) (qli q)) (nI_0.trans c2.symm) ?_
    exact im_359 h0 hQ hQ1 hck hp hE hZ hzz kk ρ H locs hP hD hS ls (lv_sub hl [0, 1, 2, 3, 4, 5, 6, 7, 8, 9, 10, 11, 12, 13, 14, 15, 16] rfl)
  · refine lv_iconst (v := nI 1) hx hb dL_isMinute_354 (by decide +kernel) ?_
    refine k_as (y := mHv (sT (qσ (qPass q 1)) z) (qli q)) (mHv_1 c2) ?_
    refine lv_goto (tgt := 359) hx hb dL_isMinute_355 (by decide) ?_
    exact im_359 h0 hQ hQ1 hck hp hE hZ hzz kk ρ H locs hP hD hS ls (lv_sub hl [0, 1, 2, 3, 4, 5, 6, 7, 8, 9, 10, 11, 12, 13, 14, 15, 16] rfl)

set_option maxHeartbeats 4000000 in
set_option maxRecDepth 100000 in
theorem im_263 {z : Nat} (h0 : MC p l s m args c D cI cZ cO cJ A) (hQ : QOK q) (hQ1 : QOK (qPass q 1)) (hck : qK q + 1 ≤ 100000) (hp : PR pf q B) (hE : ER ef q) (hZ : ZR zf q) (hzz : z < 6) (kk : ∀ (ρ : HS) (H : Heap) (locs : List Loc), va_P D vwCl (wQ cI cZ cO x a t b (qPass q 1) ρ ++ [(ap, .inl (cI, 6, .inl pf)), (ae, .inl (cI, 48, .inl ef)), (az, .inl (cI, 30, .inl (zM q zf 6)))]) H → va_D A (wQ cI cZ cO x a t b (qPass q 1) ρ ++ [(ap, .inl (cI, 6, .inl pf)), (ae, .inl (cI, 48, .inl ef)), (az, .inl (cI, 30, .inl (zM q zf 6)))]) → va_S A s.heap H locs → ∀ ls : Array Slot, lv_has ls 20 [(0, .ref (x 0)), (1, .ref ae), (2, .ref az), (3, .ref ap), (4, .int (mNot (qli q) (sT (qσ (qPass q 1))) (z + 1))), (7, .int (mNot (qli q) (sT (qσ (qPass q 1))) 6)), (8, .int (nI 1)), (9, .int (nI (z + 1)))] → W p l e rmL_isMinute s m args below meth c H locs 0 0 Q (F0 m 114 ls [])) : ∀ (ρ : HS) (H : Heap) (locs : List Loc), va_P D vwCl (wQ cI cZ cO x a t b (qPass q 1) ρ ++ [(ap, .inl (cI, 6, .inl pf)), (ae, .inl (cI, 48, .inl ef)), (az, .inl (cI, 30, .inl (zM q zf 6)))]) H → va_D A (wQ cI cZ cO x a t b (qPass q 1) ρ ++ [(ap, .inl (cI, 6, .inl pf)), (ae, .inl (cI, 48, .inl ef)), (az, .inl (cI, 30, .inl (zM q zf 6)))]) → va_S A s.heap H locs → ∀ ls : Array Slot, lv_has ls 20 [(11, .int ((sE (qσ q) z) + ((sT (qσ q) z) - (qSe q z)))), (10, .int ((sT (qσ q) z) - (qSe q z))), (0, .ref (x 0)), (1, .ref ae), (2, .ref az), (3, .ref ap), (4, .int (mNot (qli q) (sT (qσ (qPass q 1))) z)), (7, .int (mNot (qli q) (sT (qσ (qPass q 1))) 6)), (8, .int (nI 1)), (9, .int (nI z)), (12, .int (mCo (qEf q) (sS (qσ (qPass q 1))) z 8)), (13, .int (mFs (sF (qσ q)) (fun f => qEf q f z) 8)), (14, .int (mRun (sF (qσ q)) (fun f => qEf q f z) 8)), (15, .int (nI 8))] → W p l e rmL_isMinute s m args below meth c H locs 0 0 Q (F0 m 263 ls []) := by
  obtain ⟨hx, hb, hml, hts, hown, hK, hN, hX, hC, hA⟩ := id h0
  intro ρ H locs hP hD hS ls hl
  refine lv_bipush (v := nI 64) hx hb dL_isMinute_263 (by decide +kernel) ?_
  refine lv_aload_n hx hb dL_isMinute_265 rfl (lv_at hl 2 rfl) ?_
  refine lv_iload hx hb dL_isMinute_266 (lv_at hl 9 rfl) ?_
  refine kCallP_i (mc := 0) (ms := 0) (W1 := fun _ : Unit => wQ cI cZ cO x a t b (qPass q 1) ρ) (fun _ _ h => h) hP hD hS hA (fun _ => rfl) (va_runV (As := [.int (nI z)]) (rest := [.int (nI 64)]) ⟨hx, hb, hml, hown, hts⟩ (c_X2_temperature l D cI cZ cO cJ x a t b (qK (qPass q 1)) (qHo (qPass q 1)) (sT (qσ (qPass q 1))) (sE (qσ (qPass q 1))) (sD (qσ (qPass q 1))) (sF (qσ (qPass q 1))) (sS (qσ (qPass q 1))) (sC (qσ (qPass q 1))) (sL (qσ (qPass q 1))) (sT ρ) (sE ρ) (sD ρ) (sF ρ) (sS ρ) (sC ρ) (sL ρ) (qLo (qPass q 1)) (qSe (qPass q 1)) (qEf (qPass q 1)) (qgp (qPass q 1)) (qgi (qPass q 1)) (qam (qPass q 1)) (qli (qPass q 1)) (qdl (qPass q 1)) z H.size (by omega)) (cwV (rm := rmX2_temperature) 1 hts gL_isMinute_X2_temperature rfl rfl rfl (by decide +kernel) ⟨Nat.le_of_ble_eq_true rfl, Nat.le_of_ble_eq_true rfl⟩) (kPreVW hK hN (pfP hP) (pfD hD) (va_recv hK (pfP hP) (ci := 2) (q0 := 0) rfl rfl)) rfl rfl hl.1 rfl (lv_room (Nat.le_of_ble_eq_true rfl)) dL_isMinute_268 ⟨Nat.zero_le _, Nat.zero_le _⟩) (fun r9 u9 H locs hr9 hP hD hS => ?_)
  have hr9 : r9 = sT (qσ (qPass q 1)) z := hr9
  subst hr9
  refine lv_aload_n hx hb dL_isMinute_271 rfl (lv_at hl 4 rfl) ?_
  refine lv_bipush (v := nI 12) hx hb dL_isMinute_272 (by decide +kernel) ?_
  refine lv_iload hx hb dL_isMinute_274 (lv_at hl 9 rfl) ?_
  refine lv_iadd hx hb dL_isMinute_276 ?_
  refine k_as (nI_add _ _) ?_
  refine k_ialdT hx hb hK hP 2 0 rfl rfl (i := 12 + z) (by omega) (by decide) dL_isMinute_277 ?_
  refine k_as (y := sT (qσ q) z) (zM_T q zf 6 (Nat.le_refl 6) hzz) ?_
  refine lv_isub hx hb dL_isMinute_278 ?_
  refine lv_aload_n hx hb dL_isMinute_279 rfl (lv_at hl 4 rfl) ?_
  refine lv_iload hx hb dL_isMinute_280 (lv_at hl 9 rfl) ?_
  refine k_ialdT hx hb hK hP 2 0 rfl rfl (i := z) (by omega) (by decide) dL_isMinute_282 ?_
  refine k_as (y := qLo q z) (hZ.zM 6 z hzz).1 ?_
  refine lv_isub hx hb dL_isMinute_283 ?_
  refine lv_iload hx hb dL_isMinute_284 (lv_at hl 10 rfl) ?_
  refine lv_bipush (v := nI 100) hx hb dL_isMinute_286 (by decide +kernel) ?_
  refine lv_idiv hx hb dL_isMinute_288 (by decide +kernel) ?_
  refine lv_iadd hx hb dL_isMinute_289 ?_
  refine lv_imul hx hb dL_isMinute_290 ?_
  refine lv_istore (lv' := [(15, .int ((nI 64) * ((((sT (qσ (qPass q 1)) z) - (sT (qσ q) z)) - (qLo q z)) + ((mCo (qEf q) (sS (qσ (qPass q 1))) z 8) / (nI 100))))), (11, .int ((sE (qσ q) z) + ((sT (qσ q) z) - (qSe q z)))), (10, .int ((sT (qσ q) z) - (qSe q z))), (0, .ref (x 0)), (1, .ref ae), (2, .ref az), (3, .ref ap), (4, .int (mNot (qli q) (sT (qσ (qPass q 1))) z)), (7, .int (mNot (qli q) (sT (qσ (qPass q 1))) 6)), (8, .int (nI 1)), (9, .int (nI z)), (12, .int (mCo (qEf q) (sS (qσ (qPass q 1))) z 8)), (13, .int (mFs (sF (qσ q)) (fun f => qEf q f z) 8)), (14, .int (mRun (sF (qσ q)) (fun f => qEf q f z) 8))]) hx hb dL_isMinute_291 hl (by decide) rfl (fun ls hl => ?_)
  refine lv_aload_n hx hb dL_isMinute_293 rfl (lv_at hl 6 rfl) ?_
  refine lv_iconst (v := nI 2) hx hb dL_isMinute_294 (by decide +kernel) ?_
  refine k_ialdT hx hb hK hP 0 0 rfl rfl (i := 2) (by decide) (by decide) dL_isMinute_295 ?_
  refine k_as (y := qam q) hp.2.2.1 ?_
  refine lv_aload_n hx hb dL_isMinute_296 rfl (lv_at hl 5 rfl) ?_
  refine lv_bipush (v := nI 12) hx hb dL_isMinute_297 (by decide +kernel) ?_
  refine lv_iload hx hb dL_isMinute_299 (lv_at hl 10 rfl) ?_
  refine lv_iadd hx hb dL_isMinute_301 ?_
  refine k_as (nI_add _ _) ?_
  refine k_ialdT hx hb hK hP 2 0 rfl rfl (i := 12 + z) (by omega) (by decide) dL_isMinute_302 ?_
  refine k_as (y := sT (qσ q) z) (zM_T q zf 6 (Nat.le_refl 6) hzz) ?_
  refine lv_isub hx hb dL_isMinute_303 ?_
  refine lv_istore (lv' := [(16, .int ((qam q) - (sT (qσ q) z))), (15, .int ((nI 64) * ((((sT (qσ (qPass q 1)) z) - (sT (qσ q) z)) - (qLo q z)) + ((mCo (qEf q) (sS (qσ (qPass q 1))) z 8) / (nI 100))))), (11, .int ((sE (qσ q) z) + ((sT (qσ q) z) - (qSe q z)))), (10, .int ((sT (qσ q) z) - (qSe q z))), (0, .ref (x 0)), (1, .ref ae), (2, .ref az), (3, .ref ap), (4, .int (mNot (qli q) (sT (qσ (qPass q 1))) z)), (7, .int (mNot (qli q) (sT (qσ (qPass q 1))) 6)), (8, .int (nI 1)), (9, .int (nI z)), (12, .int (mCo (qEf q) (sS (qσ (qPass q 1))) z 8)), (13, .int (mFs (sF (qσ q)) (fun f => qEf q f z) 8)), (14, .int (mRun (sF (qσ q)) (fun f => qEf q f z) 8))]) hx hb dL_isMinute_304 hl (by decide) rfl (fun ls hl => ?_)
  refine lv_bipush (v := nI 100) hx hb dL_isMinute_306 (by decide +kernel) ?_
  refine lv_aload_n hx hb dL_isMinute_308 rfl (lv_at hl 7 rfl) ?_
  refine lv_iconst (v := nI 0) hx hb dL_isMinute_309 (by decide +kernel) ?_
  refine k_ialdT hx hb hK hP 0 0 rfl rfl (i := 0) (by decide) (by decide) dL_isMinute_310 ?_
  refine k_as (y := qgp q) hp.1 ?_
  refine lv_imul hx hb dL_isMinute_311 ?_
  refine lv_iload hx hb dL_isMinute_312 (lv_at hl 3 rfl) ?_
  refine lv_imul hx hb dL_isMinute_314 ?_
  refine lv_aload_n hx hb dL_isMinute_315 rfl (lv_at hl 7 rfl) ?_
  refine lv_iconst (v := nI 1) hx hb dL_isMinute_316 (by decide +kernel) ?_
  refine k_ialdT hx hb hK hP 0 0 rfl rfl (i := 1) (by decide) (by decide) dL_isMinute_317 ?_
  refine k_as (y := qgi q) hp.2.1 ?_
  refine lv_aload_n hx hb dL_isMinute_318 rfl (lv_at hl 4 rfl) ?_
  refine lv_iload hx hb dL_isMinute_319 (lv_at hl 11 rfl) ?_
  refine kCallP_i (mc := 0) (ms := 0) (W1 := fun _ : Unit => wQ cI cZ cO x a t b (qPass q 1) ρ) (fun _ _ h => h) hP hD hS hA (fun _ => rfl) (va_runV (As := [.int (nI z)]) (rest := [.int (qgi q), .int (((nI 100) * (qgp q)) * ((sT (qσ q) z) - (qSe q z)))]) ⟨hx, hb, hml, hown, hts⟩ (c_X2_errors l D cI cZ cO cJ x a t b (qK (qPass q 1)) (qHo (qPass q 1)) (sT (qσ (qPass q 1))) (sE (qσ (qPass q 1))) (sD (qσ (qPass q 1))) (sF (qσ (qPass q 1))) (sS (qσ (qPass q 1))) (sC (qσ (qPass q 1))) (sL (qσ (qPass q 1))) (sT ρ) (sE ρ) (sD ρ) (sF ρ) (sS ρ) (sC ρ) (sL ρ) (qLo (qPass q 1)) (qSe (qPass q 1)) (qEf (qPass q 1)) (qgp (qPass q 1)) (qgi (qPass q 1)) (qam (qPass q 1)) (qli (qPass q 1)) (qdl (qPass q 1)) z H.size (by omega)) (cwV (rm := rmX2_errors) 1 hts gL_isMinute_X2_errors rfl rfl rfl (by decide +kernel) ⟨Nat.le_of_ble_eq_true rfl, Nat.le_of_ble_eq_true rfl⟩) (kPreVW hK hN (pfP hP) (pfD hD) (va_recv hK (pfP hP) (ci := 2) (q0 := 0) rfl rfl)) rfl rfl hl.1 rfl (lv_room (Nat.le_of_ble_eq_true rfl)) dL_isMinute_321 ⟨Nat.zero_le _, Nat.zero_le _⟩) (fun r9 u9 H locs hr9 hP hD hS => ?_)
  have hr9 : r9 = sE (qσ (qPass q 1)) z := hr9
  subst hr9
  refine lv_imul hx hb dL_isMinute_324 ?_
  refine lv_iadd hx hb dL_isMinute_325 ?_
  refine lv_istore (lv' := [(17, .int ((((nI 100) * (qgp q)) * ((sT (qσ q) z) - (qSe q z))) + ((qgi q) * (sE (qσ (qPass q 1)) z)))), (16, .int ((qam q) - (sT (qσ q) z))), (15, .int ((nI 64) * ((((sT (qσ (qPass q 1)) z) - (sT (qσ q) z)) - (qLo q z)) + ((mCo (qEf q) (sS (qσ (qPass q 1))) z 8) / (nI 100))))), (11, .int ((sE (qσ q) z) + ((sT (qσ q) z) - (qSe q z)))), (10, .int ((sT (qσ q) z) - (qSe q z))), (0, .ref (x 0)), (1, .ref ae), (2, .ref az), (3, .ref ap), (4, .int (mNot (qli q) (sT (qσ (qPass q 1))) z)), (7, .int (mNot (qli q) (sT (qσ (qPass q 1))) 6)), (8, .int (nI 1)), (9, .int (nI z)), (12, .int (mCo (qEf q) (sS (qσ (qPass q 1))) z 8)), (13, .int (mFs (sF (qσ q)) (fun f => qEf q f z) 8)), (14, .int (mRun (sF (qσ q)) (fun f => qEf q f z) 8))]) hx hb dL_isMinute_326 hl (by decide) rfl (fun ls hl => ?_)
  refine lv_aload_n hx hb dL_isMinute_328 rfl (lv_at hl 5 rfl) ?_
  refine lv_iload hx hb dL_isMinute_329 (lv_at hl 12 rfl) ?_
  refine kCallP_i (mc := 0) (ms := 0) (W1 := fun _ : Unit => wQ cI cZ cO x a t b (qPass q 1) ρ) (fun _ _ h => h) hP hD hS hA (fun _ => rfl) (va_runV (As := [.int (nI z)]) (rest := []) ⟨hx, hb, hml, hown, hts⟩ (c_X2_temperature l D cI cZ cO cJ x a t b (qK (qPass q 1)) (qHo (qPass q 1)) (sT (qσ (qPass q 1))) (sE (qσ (qPass q 1))) (sD (qσ (qPass q 1))) (sF (qσ (qPass q 1))) (sS (qσ (qPass q 1))) (sC (qσ (qPass q 1))) (sL (qσ (qPass q 1))) (sT ρ) (sE ρ) (sD ρ) (sF ρ) (sS ρ) (sC ρ) (sL ρ) (qLo (qPass q 1)) (qSe (qPass q 1)) (qEf (qPass q 1)) (qgp (qPass q 1)) (qgi (qPass q 1)) (qam (qPass q 1)) (qli (qPass q 1)) (qdl (qPass q 1)) z H.size (by omega)) (cwV (rm := rmX2_temperature) 1 hts gL_isMinute_X2_temperature rfl rfl rfl (by decide +kernel) ⟨Nat.le_of_ble_eq_true rfl, Nat.le_of_ble_eq_true rfl⟩) (kPreVW hK hN (pfP hP) (pfD hD) (va_recv hK (pfP hP) (ci := 2) (q0 := 0) rfl rfl)) rfl rfl hl.1 rfl (lv_room (Nat.le_of_ble_eq_true rfl)) dL_isMinute_331 ⟨Nat.zero_le _, Nat.zero_le _⟩) (fun r9 u9 H locs hr9 hP hD hS => ?_)
  have hr9 : r9 = sT (qσ (qPass q 1)) z := hr9
  subst hr9
  refine lv_aload_n hx hb dL_isMinute_334 rfl (lv_at hl 8 rfl) ?_
  refine lv_iconst (v := nI 3) hx hb dL_isMinute_335 (by decide +kernel) ?_
  refine k_ialdT hx hb hK hP 0 0 rfl rfl (i := 3) (by decide) (by decide) dL_isMinute_336 ?_
  refine k_as (y := qli q) hp.2.2.2.1 ?_
  refine lv_icmp_le (tgt := 344) hx hb dL_isMinute_337 (by decide) (fun c1 => ?_) (fun c1 => ?_)
  · refine lv_iconst (v := nI 0) hx hb dL_isMinute_344 (by decide +kernel) ?_
    refine k_as (y := mHv (sT (qσ (qPass q 1)) z) (qli q)) (by unfold mHv; rw [if_pos c1]) ?_
    exact im_345 h0 hQ hQ1 hck hp hE hZ hzz kk ρ H locs hP hD hS ls (lv_sub hl [0, 1, 2, 3, 4, 5, 6, 7, 8, 9, 10, 11, 12, 13, 14, 15] rfl)
  · refine lv_iconst (v := nI 1) hx hb dL_isMinute_340 (by decide +kernel) ?_
    refine k_as (y := mHv (sT (qσ (qPass q 1)) z) (qli q)) (by unfold mHv; rw [if_neg c1]) ?_
    refine lv_goto (tgt := 345) hx hb dL_isMinute_341 (by decide) ?_
    exact im_345 h0 hQ hQ1 hck hp hE hZ hzz kk ρ H locs hP hD hS ls (lv_sub hl [0, 1, 2, 3, 4, 5, 6, 7, 8, 9, 10, 11, 12, 13, 14, 15] rfl)

set_option maxHeartbeats 4000000 in
set_option maxRecDepth 100000 in
theorem im_167 {z : Nat} (h0 : MC p l s m args c D cI cZ cO cJ A) (hQ : QOK q) (hQ1 : QOK (qPass q 1)) (hck : qK q + 1 ≤ 100000) (hp : PR pf q B) (hE : ER ef q) (hZ : ZR zf q) (hzz : z < 6) (kk : ∀ (ρ : HS) (H : Heap) (locs : List Loc), va_P D vwCl (wQ cI cZ cO x a t b (qPass q 1) ρ ++ [(ap, .inl (cI, 6, .inl pf)), (ae, .inl (cI, 48, .inl ef)), (az, .inl (cI, 30, .inl (zM q zf 6)))]) H → va_D A (wQ cI cZ cO x a t b (qPass q 1) ρ ++ [(ap, .inl (cI, 6, .inl pf)), (ae, .inl (cI, 48, .inl ef)), (az, .inl (cI, 30, .inl (zM q zf 6)))]) → va_S A s.heap H locs → ∀ ls : Array Slot, lv_has ls 20 [(0, .ref (x 0)), (1, .ref ae), (2, .ref az), (3, .ref ap), (4, .int (mNot (qli q) (sT (qσ (qPass q 1))) (z + 1))), (7, .int (mNot (qli q) (sT (qσ (qPass q 1))) 6)), (8, .int (nI 1)), (9, .int (nI (z + 1)))] → W p l e rmL_isMinute s m args below meth c H locs 0 0 Q (F0 m 114 ls [])) : ∀ (ρ : HS) (H : Heap) (locs : List Loc), va_P D vwCl (wQ cI cZ cO x a t b (qPass q 1) ρ ++ [(ap, .inl (cI, 6, .inl pf)), (ae, .inl (cI, 48, .inl ef)), (az, .inl (cI, 30, .inl (zM q zf 6)))]) H → va_D A (wQ cI cZ cO x a t b (qPass q 1) ρ ++ [(ap, .inl (cI, 6, .inl pf)), (ae, .inl (cI, 48, .inl ef)), (az, .inl (cI, 30, .inl (zM q zf 6)))]) → va_S A s.heap H locs → ∀ ls : Array Slot, lv_has ls 20 [(15, .int (nI 0)), (14, .int (nI 0)), (13, .int (nI 0)), (12, .int (nI 0)), (11, .int ((sE (qσ q) z) + ((sT (qσ q) z) - (qSe q z)))), (10, .int ((sT (qσ q) z) - (qSe q z))), (0, .ref (x 0)), (1, .ref ae), (2, .ref az), (3, .ref ap), (4, .int (mNot (qli q) (sT (qσ (qPass q 1))) z)), (7, .int (mNot (qli q) (sT (qσ (qPass q 1))) 6)), (8, .int (nI 1)), (9, .int (nI z))] → W p l e rmL_isMinute s m args below meth c H locs 0 0 Q (F0 m 167 ls []) := by
  obtain ⟨hx, hb, hml, hts, hown, hK, hN, hX, hC, hA⟩ := id h0
  intro ρ H locs hP hD hS ls hl
  have lr : ∀ (n3 k : Nat), k + n3 = 8 → ∀ ρ : HS, ∀ (H : Heap) (locs : List Loc), va_P D vwCl (wQ cI cZ cO x a t b (qPass q 1) ρ ++ [(ap, .inl (cI, 6, .inl pf)), (ae, .inl (cI, 48, .inl ef)), (az, .inl (cI, 30, .inl (zM q zf 6)))]) H → va_D A (wQ cI cZ cO x a t b (qPass q 1) ρ ++ [(ap, .inl (cI, 6, .inl pf)), (ae, .inl (cI, 48, .inl ef)), (az, .inl (cI, 30, .inl (zM q zf 6)))]) → va_S A s.heap H locs → ∀ ls : Array Slot, lv_has ls 20 [(11, .int ((sE (qσ q) z) + ((sT (qσ q) z) - (qSe q z)))), (10, .int ((sT (qσ q) z) - (qSe q z))), (0, .ref (x 0)), (1, .ref ae), (2, .ref az), (3, .ref ap), (4, .int (mNot (qli q) (sT (qσ (qPass q 1))) z)), (7, .int (mNot (qli q) (sT (qσ (qPass q 1))) 6)), (8, .int (nI 1)), (9, .int (nI z)), (12, .int (mCo (qEf q) (sS (qσ (qPass q 1))) z k)), (13, .int (mFs (sF (qσ q)) (fun f => qEf q f z) k)), (14, .int (mRun (sF (qσ q)) (fun f => qEf q f z) k)), (15, .int (nI k))] → W p l e rmL_isMinute s m args below meth c H locs 0 0 Q (F0 m 167 ls []) := by
    intro n3
    induction n3 with
    | zero =>
      intro k hz9 ρ H locs hP hD hS ls hl
      have hz9 : k = 8 := by omega
      subst hz9
      refine lv_iload hx hb dL_isMinute_167 (lv_at hl 13 rfl) ?_
      refine lv_bipush (v := nI 8) hx hb dL_isMinute_169 (by decide +kernel) ?_
      refine lv_icmp_ge (tgt := 263) hx hb dL_isMinute_171 (by decide) (fun _ => ?_) (fun c9 => absurd (nI_le (Nat.le_refl 8) (by decide)) c9)
      exact im_263 h0 hQ hQ1 hck hp hE hZ hzz kk ρ H locs hP hD hS ls (lv_sub hl [0, 1, 2, 3, 4, 5, 6, 7, 8, 9, 10, 11, 12, 13] rfl)
    | succ n3 ih3 =>
      intro k hz9 ρ H locs hP hD hS ls hl
      have hzb : k < 8 := by omega
      refine lv_iload hx hb dL_isMinute_167 (lv_at hl 13 rfl) ?_
      refine lv_bipush (v := nI 8) hx hb dL_isMinute_169 (by decide +kernel) ?_
      refine lv_icmp_ge (tgt := 263) hx hb dL_isMinute_171 (by decide) (fun c9 => absurd c9 (nI_ge hzb (by decide))) (fun _ => ?_)
      refine lv_iload hx hb dL_isMinute_174 (lv_at hl 10 rfl) ?_
      refine lv_aload_n hx hb dL_isMinute_176 rfl (lv_at hl 3 rfl) ?_
      refine lv_bipush (v := nI 6) hx hb dL_isMinute_177 (by decide +kernel) ?_
      refine lv_iload hx hb dL_isMinute_179 (lv_at hl 13 rfl) ?_
      refine lv_imul hx hb dL_isMinute_181 ?_
      refine k_as (pk_mul _ _) ?_
      refine lv_iload hx hb dL_isMinute_182 (lv_at hl 9 rfl) ?_
      refine lv_iadd hx hb dL_isMinute_184 ?_
      refine k_as (nI_add _ _) ?_
      refine k_ialdT hx hb hK hP 1 0 rfl rfl (i := 6 * k + z) (by omega) (by decide) dL_isMinute_185 ?_
      refine k_as (y := qEf q k z) (hE k z (by omega) (by omega)) ?_
      refine lv_aload_n hx hb dL_isMinute_186 rfl (lv_at hl 2 rfl) ?_
      refine lv_iload hx hb dL_isMinute_187 (lv_at hl 13 rfl) ?_
      refine kCallP_i (mc := 0) (ms := 0) (W1 := fun _ : Unit => wQ cI cZ cO x a t b (qPass q 1) ρ) (fun _ _ h => h) hP hD hS hA (fun _ => rfl) (va_runV (As := [.int (nI k)]) (rest := [.int (qEf q k z), .int (mCo (qEf q) (sS (qσ (qPass q 1))) z k)]) ⟨hx, hb, hml, hown, hts⟩ (c_X2_speed l D cI cZ cO cJ x a t b (qK (qPass q 1)) (qHo (qPass q 1)) (sT (qσ (qPass q 1))) (sE (qσ (qPass q 1))) (sD (qσ (qPass q 1))) (sF (qσ (qPass q 1))) (sS (qσ (qPass q 1))) (sC (qσ (qPass q 1))) (sL (qσ (qPass q 1))) (sT ρ) (sE ρ) (sD ρ) (sF ρ) (sS ρ) (sC ρ) (sL ρ) (qLo (qPass q 1)) (qSe (qPass q 1)) (qEf (qPass q 1)) (qgp (qPass q 1)) (qgi (qPass q 1)) (qam (qPass q 1)) (qli (qPass q 1)) (qdl (qPass q 1)) k H.size (by omega)) (cwV (rm := rmX2_speed) 1 hts gL_isMinute_X2_speed rfl rfl rfl (by decide +kernel) ⟨Nat.le_of_ble_eq_true rfl, Nat.le_of_ble_eq_true rfl⟩) (kPreVW hK hN (pfP hP) (pfD hD) (va_recv hK (pfP hP) (ci := 2) (q0 := 0) rfl rfl)) rfl rfl hl.1 rfl (lv_room (Nat.le_of_ble_eq_true rfl)) dL_isMinute_189 ⟨Nat.zero_le _, Nat.zero_le _⟩) (fun r9 u9 H locs hr9 hP hD hS => ?_)
      have hr9 : r9 = sS (qσ (qPass q 1)) k := hr9
      subst hr9
      refine lv_imul hx hb dL_isMinute_192 ?_
      refine lv_iadd hx hb dL_isMinute_193 ?_
      refine k_as (y := mCo (qEf q) (sS (qσ (qPass q 1))) z (k + 1)) rfl ?_
      refine lv_istore (lv' := [(12, .int (mCo (qEf q) (sS (qσ (qPass q 1))) z (k + 1))), (11, .int ((sE (qσ q) z) + ((sT (qσ q) z) - (qSe q z)))), (10, .int ((sT (qσ q) z) - (qSe q z))), (0, .ref (x 0)), (1, .ref ae), (2, .ref az), (3, .ref ap), (4, .int (mNot (qli q) (sT (qσ (qPass q 1))) z)), (7, .int (mNot (qli q) (sT (qσ (qPass q 1))) 6)), (8, .int (nI 1)), (9, .int (nI z)), (13, .int (mFs (sF (qσ q)) (fun f => qEf q f z) k)), (14, .int (mRun (sF (qσ q)) (fun f => qEf q f z) k)), (15, .int (nI k))]) hx hb dL_isMinute_194 hl (by decide) rfl (fun ls hl => ?_)
      rcases hQ.F k hzb with hF | hF
      · refine lv_iload hx hb dL_isMinute_196 (lv_at hl 11 rfl) ?_
        refine lv_aload_n hx hb dL_isMinute_198 rfl (lv_at hl 6 rfl) ?_
        refine lv_iconst (v := nI 5) hx hb dL_isMinute_199 (by decide +kernel) ?_
        refine k_ialdT hx hb hK hP 0 0 rfl rfl (i := 5) (by decide) (by decide) dL_isMinute_200 ?_
        refine lv_iload hx hb dL_isMinute_201 (lv_at hl 13 rfl) ?_
        refine lv_ishr hx hb dL_isMinute_203 ?_
        refine lv_iconst (v := nI 1) hx hb dL_isMinute_204 (by decide +kernel) ?_
        refine lv_iand hx hb dL_isMinute_205 ?_
        refine k_as (y := sF (qσ q) k) (hp.bit (by omega)) ?_
        refine k_as (y := nI 0) hF ?_
        refine lv_iconst (v := nI 1) hx hb dL_isMinute_206 (by decide +kernel) ?_
        refine lv_icmp_ne (tgt := 223) hx hb dL_isMinute_207 (by decide) (fun _ => ?_) (fun c9 => absurd c9 (by decide +kernel))
        refine lv_iconst (v := nI 0) hx hb dL_isMinute_223 (by decide +kernel) ?_
        refine lv_iadd hx hb dL_isMinute_224 ?_
        refine k_as (y := mFs (sF (qσ q)) (fun f => qEf q f z) (k + 1)) (mFs_t _ _ k (hF.trans nI_0)).symm ?_
        refine lv_istore (lv' := [(13, .int (mFs (sF (qσ q)) (fun f => qEf q f z) (k + 1))), (12, .int (mCo (qEf q) (sS (qσ (qPass q 1))) z (k + 1))), (11, .int ((sE (qσ q) z) + ((sT (qσ q) z) - (qSe q z)))), (10, .int ((sT (qσ q) z) - (qSe q z))), (0, .ref (x 0)), (1, .ref ae), (2, .ref az), (3, .ref ap), (4, .int (mNot (qli q) (sT (qσ (qPass q 1))) z)), (7, .int (mNot (qli q) (sT (qσ (qPass q 1))) 6)), (8, .int (nI 1)), (9, .int (nI z)), (14, .int (mRun (sF (qσ q)) (fun f => qEf q f z) k)), (15, .int (nI k))]) hx hb dL_isMinute_225 hl (by decide) rfl (fun ls hl => ?_)
        refine lv_iload hx hb dL_isMinute_227 (lv_at hl 12 rfl) ?_
        refine lv_aload_n hx hb dL_isMinute_229 rfl (lv_at hl 7 rfl) ?_
        refine lv_iconst (v := nI 5) hx hb dL_isMinute_230 (by decide +kernel) ?_
        refine k_ialdT hx hb hK hP 0 0 rfl rfl (i := 5) (by decide) (by decide) dL_isMinute_231 ?_
        refine lv_iload hx hb dL_isMinute_232 (lv_at hl 13 rfl) ?_
        refine lv_ishr hx hb dL_isMinute_234 ?_
        refine lv_iconst (v := nI 1) hx hb dL_isMinute_235 (by decide +kernel) ?_
        refine lv_iand hx hb dL_isMinute_236 ?_
        refine k_as (y := sF (qσ q) k) (hp.bit (by omega)) ?_
        refine k_as (y := nI 0) hF ?_
        refine lv_if_ne (tgt := 253) hx hb dL_isMinute_237 (by decide) (fun c9 => absurd (by decide +kernel) c9) (fun _ => ?_)
        refine lv_aload_n hx hb dL_isMinute_240 rfl (lv_at hl 5 rfl) ?_
        refine lv_bipush (v := nI 6) hx hb dL_isMinute_241 (by decide +kernel) ?_
        refine lv_iload hx hb dL_isMinute_243 (lv_at hl 13 rfl) ?_
        refine lv_imul hx hb dL_isMinute_245 ?_
        refine k_as (pk_mul _ _) ?_
        refine lv_iload hx hb dL_isMinute_246 (lv_at hl 11 rfl) ?_
        refine lv_iadd hx hb dL_isMinute_248 ?_
        refine k_as (nI_add _ _) ?_
        refine k_ialdT hx hb hK hP 1 0 rfl rfl (i := 6 * k + z) (by omega) (by decide) dL_isMinute_249 ?_
        refine k_as (y := qEf q k z) (hE k z (by omega) (by omega)) ?_
        refine lv_goto (tgt := 254) hx hb dL_isMinute_250 (by decide) ?_
        refine lv_iadd hx hb dL_isMinute_254 ?_
        refine k_as (y := mRun (sF (qσ q)) (fun f => qEf q f z) (k + 1)) (mRun_t _ _ k (hF.trans nI_0)).symm ?_
        refine lv_istore (lv' := [(14, .int (mRun (sF (qσ q)) (fun f => qEf q f z) (k + 1))), (13, .int (mFs (sF (qσ q)) (fun f => qEf q f z) (k + 1))), (12, .int (mCo (qEf q) (sS (qσ (qPass q 1))) z (k + 1))), (11, .int ((sE (qσ q) z) + ((sT (qσ q) z) - (qSe q z)))), (10, .int ((sT (qσ q) z) - (qSe q z))), (0, .ref (x 0)), (1, .ref ae), (2, .ref az), (3, .ref ap), (4, .int (mNot (qli q) (sT (qσ (qPass q 1))) z)), (7, .int (mNot (qli q) (sT (qσ (qPass q 1))) 6)), (8, .int (nI 1)), (9, .int (nI z)), (15, .int (nI k))]) hx hb dL_isMinute_255 hl (by decide) rfl (fun ls hl => ?_)
        refine lv_iinc (v := nI (k + 1)) (lv' := [(15, .int (nI (k + 1))), (14, .int (mRun (sF (qσ q)) (fun f => qEf q f z) (k + 1))), (13, .int (mFs (sF (qσ q)) (fun f => qEf q f z) (k + 1))), (12, .int (mCo (qEf q) (sS (qσ (qPass q 1))) z (k + 1))), (11, .int ((sE (qσ q) z) + ((sT (qσ q) z) - (qSe q z)))), (10, .int ((sT (qσ q) z) - (qSe q z))), (0, .ref (x 0)), (1, .ref ae), (2, .ref az), (3, .ref ap), (4, .int (mNot (qli q) (sT (qσ (qPass q 1))) z)), (7, .int (mNot (qli q) (sT (qσ (qPass q 1))) 6)), (8, .int (nI 1)), (9, .int (nI z))]) hx hb dL_isMinute_257 hl (k := 13) rfl (k_inc _) (by decide) rfl (fun ls hl => ?_)
        refine lv_goto (tgt := 167) hx hb dL_isMinute_260 (by decide) ?_
        exact ih3 (k + 1) (by omega) ρ H locs hP hD hS ls (lv_sub hl [4, 5, 6, 7, 8, 9, 10, 11, 12, 13, 3, 2, 1, 0] rfl)
      · refine lv_iload hx hb dL_isMinute_196 (lv_at hl 11 rfl) ?_
        refine lv_aload_n hx hb dL_isMinute_198 rfl (lv_at hl 6 rfl) ?_
        refine lv_iconst (v := nI 5) hx hb dL_isMinute_199 (by decide +kernel) ?_
        refine k_ialdT hx hb hK hP 0 0 rfl rfl (i := 5) (by decide) (by decide) dL_isMinute_200 ?_
        refine lv_iload hx hb dL_isMinute_201 (lv_at hl 13 rfl) ?_
        refine lv_ishr hx hb dL_isMinute_203 ?_
        refine lv_iconst (v := nI 1) hx hb dL_isMinute_204 (by decide +kernel) ?_
        refine lv_iand hx hb dL_isMinute_205 ?_
        refine k_as (y := sF (qσ q) k) (hp.bit (by omega)) ?_
        refine k_as (y := nI 1) hF ?_
        refine lv_iconst (v := nI 1) hx hb dL_isMinute_206 (by decide +kernel) ?_
        refine lv_icmp_ne (tgt := 223) hx hb dL_isMinute_207 (by decide) (fun c9 => absurd (by decide +kernel) c9) (fun _ => ?_)
        refine lv_aload_n hx hb dL_isMinute_210 rfl (lv_at hl 4 rfl) ?_
        refine lv_bipush (v := nI 6) hx hb dL_isMinute_211 (by decide +kernel) ?_
        refine lv_iload hx hb dL_isMinute_213 (lv_at hl 13 rfl) ?_
        refine lv_imul hx hb dL_isMinute_215 ?_
        refine k_as (pk_mul _ _) ?_
        refine lv_iload hx hb dL_isMinute_216 (lv_at hl 10 rfl) ?_
        refine lv_iadd hx hb dL_isMinute_218 ?_
        refine k_as (nI_add _ _) ?_
        refine k_ialdT hx hb hK hP 1 0 rfl rfl (i := 6 * k + z) (by omega) (by decide) dL_isMinute_219 ?_
        refine k_as (y := qEf q k z) (hE k z (by omega) (by omega)) ?_
        refine lv_goto (tgt := 224) hx hb dL_isMinute_220 (by decide) ?_
        refine lv_iadd hx hb dL_isMinute_224 ?_
        refine k_as (y := mFs (sF (qσ q)) (fun f => qEf q f z) (k + 1)) (mFs_f _ _ k (by rw [hF]; decide +kernel)).symm ?_
        refine lv_istore (lv' := [(13, .int (mFs (sF (qσ q)) (fun f => qEf q f z) (k + 1))), (12, .int (mCo (qEf q) (sS (qσ (qPass q 1))) z (k + 1))), (11, .int ((sE (qσ q) z) + ((sT (qσ q) z) - (qSe q z)))), (10, .int ((sT (qσ q) z) - (qSe q z))), (0, .ref (x 0)), (1, .ref ae), (2, .ref az), (3, .ref ap), (4, .int (mNot (qli q) (sT (qσ (qPass q 1))) z)), (7, .int (mNot (qli q) (sT (qσ (qPass q 1))) 6)), (8, .int (nI 1)), (9, .int (nI z)), (14, .int (mRun (sF (qσ q)) (fun f => qEf q f z) k)), (15, .int (nI k))]) hx hb dL_isMinute_225 hl (by decide) rfl (fun ls hl => ?_)
        refine lv_iload hx hb dL_isMinute_227 (lv_at hl 12 rfl) ?_
        refine lv_aload_n hx hb dL_isMinute_229 rfl (lv_at hl 7 rfl) ?_
        refine lv_iconst (v := nI 5) hx hb dL_isMinute_230 (by decide +kernel) ?_
        refine k_ialdT hx hb hK hP 0 0 rfl rfl (i := 5) (by decide) (by decide) dL_isMinute_231 ?_
        refine lv_iload hx hb dL_isMinute_232 (lv_at hl 13 rfl) ?_
        refine lv_ishr hx hb dL_isMinute_234 ?_
        refine lv_iconst (v := nI 1) hx hb dL_isMinute_235 (by decide +kernel) ?_
        refine lv_iand hx hb dL_isMinute_236 ?_
        refine k_as (y := sF (qσ q) k) (hp.bit (by omega)) ?_
        refine k_as (y := nI 1) hF ?_
        refine lv_if_ne (tgt := 253) hx hb dL_isMinute_237 (by decide) (fun _ => ?_) (fun c9 => absurd c9 (by decide +kernel))
        refine lv_iconst (v := nI 0) hx hb dL_isMinute_253 (by decide +kernel) ?_
        refine lv_iadd hx hb dL_isMinute_254 ?_
        refine k_as (y := mRun (sF (qσ q)) (fun f => qEf q f z) (k + 1)) (mRun_f0 _ _ k (by rw [hF]; decide +kernel)).symm ?_
        refine lv_istore (lv' := [(14, .int (mRun (sF (qσ q)) (fun f => qEf q f z) (k + 1))), (13, .int (mFs (sF (qσ q)) (fun f => qEf q f z) (k + 1))), (12, .int (mCo (qEf q) (sS (qσ (qPass q 1))) z (k + 1))), (11, .int ((sE (qσ q) z) + ((sT (qσ q) z) - (qSe q z)))), (10, .int ((sT (qσ q) z) - (qSe q z))), (0, .ref (x 0)), (1, .ref ae), (2, .ref az), (3, .ref ap), (4, .int (mNot (qli q) (sT (qσ (qPass q 1))) z)), (7, .int (mNot (qli q) (sT (qσ (qPass q 1))) 6)), (8, .int (nI 1)), (9, .int (nI z)), (15, .int (nI k))]) hx hb dL_isMinute_255 hl (by decide) rfl (fun ls hl => ?_)
        refine lv_iinc (v := nI (k + 1)) (lv' := [(15, .int (nI (k + 1))), (14, .int (mRun (sF (qσ q)) (fun f => qEf q f z) (k + 1))), (13, .int (mFs (sF (qσ q)) (fun f => qEf q f z) (k + 1))), (12, .int (mCo (qEf q) (sS (qσ (qPass q 1))) z (k + 1))), (11, .int ((sE (qσ q) z) + ((sT (qσ q) z) - (qSe q z)))), (10, .int ((sT (qσ q) z) - (qSe q z))), (0, .ref (x 0)), (1, .ref ae), (2, .ref az), (3, .ref ap), (4, .int (mNot (qli q) (sT (qσ (qPass q 1))) z)), (7, .int (mNot (qli q) (sT (qσ (qPass q 1))) 6)), (8, .int (nI 1)), (9, .int (nI z))]) hx hb dL_isMinute_257 hl (k := 13) rfl (k_inc _) (by decide) rfl (fun ls hl => ?_)
        refine lv_goto (tgt := 167) hx hb dL_isMinute_260 (by decide) ?_
        exact ih3 (k + 1) (by omega) ρ H locs hP hD hS ls (lv_sub hl [4, 5, 6, 7, 8, 9, 10, 11, 12, 13, 3, 2, 1, 0] rfl)
  exact lr 8 0 rfl ρ H locs hP hD hS ls (lv_sub hl [4, 5, 6, 7, 8, 9, 10, 11, 12, 13, 3, 2, 1, 0] rfl)

end IM
