section LB
variable {p : Program} {l : Launch} {e : Env} {s : State} {m : MethodId} {args : Array Value} {below : List Frame} {meth : Method} {c : Code} {Q : State → Prop} {D : va_G} {cI cZ cO cJ : ClassId} {x a t b : Nat → Nat} {ap ae az bs L : Nat} {xs : Nat → Int32} {A : Nat → Prop} {n X cl sl : Nat}
variable {q : QS} {ρ : HS} {pf ef zf : Nat → Int32} {B : Nat} {H : Heap} {locs : List Loc} {ls : Array Slot}
set_option maxHeartbeats 4000000 in
set_option maxRecDepth 100000 in
theorem br_load {Y Z Fn : Nat} (h0 : LC p l s m args c D cI cZ cO cJ bs L xs A) (hn : n < 100) (hY : Y < 67108864) (hz : Z < 6) (hf : Fn < 8) (hcl : cl + 60 ≤ 743239) (hsl : sl + 360 ≤ 6871752) (hQ : QOK q) (hk : qK q ≤ 100 * n) (hp : PR pf q B) (hE : ER ef q) (hZ : ZR zf q) (hP : va_P D vwCl (wQ cI cZ cO x a t b q ρ ++ [(ap, .inl (cI, 6, .inl pf)), (ae, .inl (cI, 48, .inl ef)), (az, .inl (cI, 30, .inl zf))]) H) (hD : va_D A (wQ cI cZ cO x a t b q ρ ++ [(ap, .inl (cI, 6, .inl pf)), (ae, .inl (cI, 48, .inl ef)), (az, .inl (cI, 30, .inl zf))])) (hS : va_S A s.heap H locs) (hl : lv_has ls 14 [(0, .ref bs), (1, .ref (x 0)), (2, .ref ae), (3, .ref az), (4, .ref ap), (5, .int (nI 1)), (6, .int (nI n)), (7, .int (nI X)), (8, .int (nI Y)), (10, .int (nI Z)), (11, .int (nI Fn))]) (kk : Tl p l e s m args below meth c D cI cZ cO x a t b ap ae az bs A Q n X (cl + 1) (sl + 6)) : W p l e room_1 s m args below meth c H locs cl sl Q (F0 m 195 ls []) := by
  obtain ⟨hx, hb, hml, hts, hown, hK, hN, hX, hC, hA, hsc, hbl, hbA, hst, hL⟩ := h0
  refine lv_aload_n hx hb dL_law_195 rfl (lv_at hl 3 rfl) ?_
  refine lv_iload hx hb dL_law_196 (lv_at hl 9 rfl) ?_
  refine k_ialdT hx hb hK hP 2 0 rfl rfl (i := Z) (by omega) (by decide) dL_law_198 ?_
  refine k_as (y := qLo q Z) (hZ Z hz).1 ?_
  refine lv_istore (lv' := [(12, .int (qLo q Z)), (0, .ref bs), (1, .ref (x 0)), (2, .ref ae), (3, .ref az), (4, .ref ap), (5, .int (nI 1)), (6, .int (nI n)), (7, .int (nI X)), (8, .int (nI Y)), (10, .int (nI Z)), (11, .int (nI Fn))]) hx hb dL_law_199 hl (by decide) rfl (fun ls hl => ?_)
  refine lv_aload_n hx hb dL_law_201 rfl (lv_at hl 4 rfl) ?_
  refine lv_iload hx hb dL_law_202 (lv_at hl 10 rfl) ?_
  refine lv_iload hx hb dL_law_204 (lv_at hl 9 rfl) ?_
  refine lv_bipush (v := nI 6) hx hb dL_law_206 (by decide +kernel) ?_
  refine lv_idiv hx hb dL_law_208 (by decide +kernel) ?_
  refine k_as (y := nI (Y / 6)) (nI_div (by omega) (by decide) (by decide)) ?_
  refine lv_sipush (v := nI 201) hx hb dL_law_209 (by decide +kernel) ?_
  refine lv_irem hx hb dL_law_212 (by decide +kernel) ?_
  refine k_as (y := nI ((Y / 6) % 201)) (nI_mod (by omega) (by decide) (by decide)) ?_
  refine k_iastT hx hb hK hP hD hS 2 0 rfl rfl (i := Z) (x := nI ((Y / 6) % 201)) (by omega) (by decide) dL_law_213 (fun H locs hP hD hS => ?_)
  have hP : va_P D vwCl (wQ cI cZ cO x a t b q ρ ++ [(ap, .inl (cI, 6, .inl pf)), (ae, .inl (cI, 48, .inl ef)), (az, .inl (cI, 30, .inl (upd zf Z (nI ((Y / 6) % 201)))))]) H := hP
  have hD : va_D A (wQ cI cZ cO x a t b q ρ ++ [(ap, .inl (cI, 6, .inl pf)), (ae, .inl (cI, 48, .inl ef)), (az, .inl (cI, 30, .inl (upd zf Z (nI ((Y / 6) % 201)))))]) := hD
  refine lv_aload_n hx hb dL_law_214 rfl (lv_at hl 2 rfl) ?_
  refine lv_iconst (v := nI 0) hx hb dL_law_215 (by decide +kernel) ?_
  refine lv_iload hx hb dL_law_216 (lv_at hl 10 rfl) ?_
  refine lv_aload_n hx hb dL_law_218 rfl (lv_at hl 4 rfl) ?_
  refine lv_iload hx hb dL_law_219 (lv_at hl 10 rfl) ?_
  refine k_ialdT hx hb hK hP 2 0 rfl rfl (i := Z) (by omega) (by decide) dL_law_221 ?_
  refine k_as (y := nI ((Y / 6) % 201)) (if_pos rfl) ?_
  refine lv_iconst (v := nI 0) hx hb dL_law_222 (by decide +kernel) ?_
  refine kCallP_i (mc := 0) (ms := 0) (T := [(ap, .inl (cI, 6, .inl pf)), (ae, .inl (cI, 48, .inl ef)), (az, .inl (cI, 30, .inl (upd zf Z (nI ((Y / 6) % 201)))))]) (W1 := fun ρ : HS => wQ cI cZ cO x a t b (qsLoad q Z (nI (Y / 6 % 201))) ρ) (fun _ _ h => h) hP hD hS hA (fun _ => rfl) (vx_runSW (As := [.ref (x 0), .int (nI 0), .int (nI Z), .int (nI ((Y / 6) % 201)), .int (nI 0)]) (rest := []) ⟨hx, hb, hml, hown, hts⟩ (c_L_set_setLoad l D cI cZ cO cJ x a t b q ρ Z (nI (Y / 6 % 201)) (nI 0) H.size hz (inR_nI (by omega) (by omega) (by decide))) (vx_cwSW (rm := rmL_set) 5 hts gL_law_L_set rfl rfl rfl (by decide +kernel) ⟨Nat.le_of_ble_eq_true rfl, Nat.le_of_ble_eq_true rfl⟩) (kPreSHW hK hN hX hC (pfP hP) (pfD hD) hS (kfree (pfD hD) hS hA)) rfl rfl hl.1 rfl (lv_room (Nat.le_of_ble_eq_true rfl)) dL_law_223 ⟨by show _ ≤ 743239; omega, by show _ ≤ 6871752; omega⟩) (fun r9 ρ H locs hr9 hP hD hS => ?_)
  have hr9 : r9 = qLo q Z := hr9
  subst hr9
  refine lv_iload hx hb dL_law_226 (lv_at hl 0 rfl) ?_
  refine lv_icmp_ne (tgt := 235) hx hb dL_law_228 (by decide) (fun c9 => absurd rfl c9) (fun _ => ?_)
  refine lv_iconst (v := nI 1) hx hb dL_law_231 (by decide +kernel) ?_
  refine lv_goto (tgt := 236) hx hb dL_law_232 (by decide) ?_
  refine lv_istore (lv' := [(5, .int (nI 1)), (12, .int (qLo q Z)), (0, .ref bs), (1, .ref (x 0)), (2, .ref ae), (3, .ref az), (4, .ref ap), (6, .int (nI n)), (7, .int (nI X)), (8, .int (nI Y)), (10, .int (nI Z)), (11, .int (nI Fn))]) hx hb dL_law_236 hl (by decide) rfl (fun ls hl => ?_)
  refine lv_goto (tgt := 880) hx hb dL_law_238 (by decide) ?_
  refine W.widen (k := cl + 1) (n := sl + 6) (by omega) (by omega) ?_
  exact kk (qsLoad q Z (nI (Y / 6 % 201))) ρ pf ef (upd zf Z (nI ((Y / 6) % 201))) B (hQ.load (inR_nI (by omega) (by omega) (by decide))) (show qK q ≤ _ by omega) hp hE (hZ.load hz) H locs hP hD hS ls (lv_sub hl [2, 3, 4, 5, 6, 0, 7, 8] rfl)

set_option maxHeartbeats 4000000 in
set_option maxRecDepth 100000 in
theorem br_set {Y Z Fn : Nat} (h0 : LC p l s m args c D cI cZ cO cJ bs L xs A) (hn : n < 100) (hY : Y < 67108864) (hz : Z < 6) (hf : Fn < 8) (hcl : cl + 60 ≤ 743239) (hsl : sl + 360 ≤ 6871752) (hQ : QOK q) (hk : qK q ≤ 100 * n) (hp : PR pf q B) (hE : ER ef q) (hZ : ZR zf q) (hP : va_P D vwCl (wQ cI cZ cO x a t b q ρ ++ [(ap, .inl (cI, 6, .inl pf)), (ae, .inl (cI, 48, .inl ef)), (az, .inl (cI, 30, .inl zf))]) H) (hD : va_D A (wQ cI cZ cO x a t b q ρ ++ [(ap, .inl (cI, 6, .inl pf)), (ae, .inl (cI, 48, .inl ef)), (az, .inl (cI, 30, .inl zf))])) (hS : va_S A s.heap H locs) (hl : lv_has ls 14 [(0, .ref bs), (1, .ref (x 0)), (2, .ref ae), (3, .ref az), (4, .ref ap), (5, .int (nI 1)), (6, .int (nI n)), (7, .int (nI X)), (8, .int (nI Y)), (10, .int (nI Z)), (11, .int (nI Fn))]) (kk : Tl p l e s m args below meth c D cI cZ cO x a t b ap ae az bs A Q n X (cl + 1) (sl + 6)) : W p l e room_1 s m args below meth c H locs cl sl Q (F0 m 247 ls []) := by
  obtain ⟨hx, hb, hml, hts, hown, hK, hN, hX, hC, hA, hsc, hbl, hbA, hst, hL⟩ := h0
  refine lv_aload_n hx hb dL_law_247 rfl (lv_at hl 3 rfl) ?_
  refine lv_bipush (v := nI 6) hx hb dL_law_248 (by decide +kernel) ?_
  refine lv_iload hx hb dL_law_250 (lv_at hl 9 rfl) ?_
  refine lv_iadd hx hb dL_law_252 ?_
  refine k_as (nI_add _ _) ?_
  refine k_ialdT hx hb hK hP 2 0 rfl rfl (i := 6 + Z) (by omega) (by decide) dL_law_253 ?_
  refine k_as (y := qSe q Z) (hZ Z hz).2 ?_
  refine lv_istore (lv' := [(12, .int (qSe q Z)), (0, .ref bs), (1, .ref (x 0)), (2, .ref ae), (3, .ref az), (4, .ref ap), (5, .int (nI 1)), (6, .int (nI n)), (7, .int (nI X)), (8, .int (nI Y)), (10, .int (nI Z)), (11, .int (nI Fn))]) hx hb dL_law_254 hl (by decide) rfl (fun ls hl => ?_)
  refine lv_aload_n hx hb dL_law_256 rfl (lv_at hl 4 rfl) ?_
  refine lv_bipush (v := nI 6) hx hb dL_law_257 (by decide +kernel) ?_
  refine lv_iload hx hb dL_law_259 (lv_at hl 10 rfl) ?_
  refine lv_iadd hx hb dL_law_261 ?_
  refine k_as (nI_add _ _) ?_
  refine lv_iload hx hb dL_law_262 (lv_at hl 9 rfl) ?_
  refine lv_iconst (v := nI 2) hx hb dL_law_264 (by decide +kernel) ?_
  refine lv_irem hx hb dL_law_265 (by decide +kernel) ?_
  refine k_as (y := nI (Y % 2)) (nI_mod (by omega) (by decide) (by decide)) ?_
  by_cases c1 : Y % 2 = 0
  · refine k_as (y := nI 0) (congrArg nI c1) ?_
    refine lv_if_ne (tgt := 285) hx hb dL_law_266 (by decide) (fun c9 => absurd (by decide +kernel) c9) (fun _ => ?_)
    refine lv_sipush (v := nI 1500) hx hb dL_law_269 (by decide +kernel) ?_
    refine lv_iload hx hb dL_law_272 (lv_at hl 9 rfl) ?_
    refine lv_bipush (v := nI 12) hx hb dL_law_274 (by decide +kernel) ?_
    refine lv_idiv hx hb dL_law_276 (by decide +kernel) ?_
    refine k_as (y := nI (Y / 12)) (nI_div (by omega) (by decide) (by decide)) ?_
    refine lv_sipush (v := nI 2001) hx hb dL_law_277 (by decide +kernel) ?_
    refine lv_irem hx hb dL_law_280 (by decide +kernel) ?_
    refine k_as (y := nI ((Y / 12) % 2001)) (nI_mod (by omega) (by decide) (by decide)) ?_
    refine lv_iadd hx hb dL_law_281 ?_
    refine k_as (nI_add _ _) ?_
    refine lv_goto (tgt := 298) hx hb dL_law_282 (by decide) ?_
    refine k_iastT hx hb hK hP hD hS 2 0 rfl rfl (i := 6 + Z) (x := nI (1500 + ((Y / 12) % 2001))) (by omega) (by decide) dL_law_298 (fun H locs hP hD hS => ?_)
    have hP : va_P D vwCl (wQ cI cZ cO x a t b q ρ ++ [(ap, .inl (cI, 6, .inl pf)), (ae, .inl (cI, 48, .inl ef)), (az, .inl (cI, 30, .inl (upd zf (6 + Z) (nI (1500 + ((Y / 12) % 2001))))))]) H := hP
    have hD : va_D A (wQ cI cZ cO x a t b q ρ ++ [(ap, .inl (cI, 6, .inl pf)), (ae, .inl (cI, 48, .inl ef)), (az, .inl (cI, 30, .inl (upd zf (6 + Z) (nI (1500 + ((Y / 12) % 2001))))))]) := hD
    refine lv_aload_n hx hb dL_law_299 rfl (lv_at hl 2 rfl) ?_
    refine lv_iconst (v := nI 1) hx hb dL_law_300 (by decide +kernel) ?_
    refine lv_iload hx hb dL_law_301 (lv_at hl 10 rfl) ?_
    refine lv_aload_n hx hb dL_law_303 rfl (lv_at hl 4 rfl) ?_
    refine lv_bipush (v := nI 6) hx hb dL_law_304 (by decide +kernel) ?_
    refine lv_iload hx hb dL_law_306 (lv_at hl 10 rfl) ?_
    refine lv_iadd hx hb dL_law_308 ?_
    refine k_as (nI_add _ _) ?_
    refine k_ialdT hx hb hK hP 2 0 rfl rfl (i := 6 + Z) (by omega) (by decide) dL_law_309 ?_
    refine k_as (y := nI (1500 + ((Y / 12) % 2001))) (if_pos rfl) ?_
    refine lv_iconst (v := nI 0) hx hb dL_law_310 (by decide +kernel) ?_
    refine kCallP_i (mc := 0) (ms := 0) (T := [(ap, .inl (cI, 6, .inl pf)), (ae, .inl (cI, 48, .inl ef)), (az, .inl (cI, 30, .inl (upd zf (6 + Z) (nI (1500 + ((Y / 12) % 2001))))))]) (W1 := fun ρ : HS => wQ cI cZ cO x a t b (qsSet q Z (nI (1500 + ((Y / 12) % 2001)))) ρ) (fun _ _ h => h) hP hD hS hA (fun _ => rfl) (vx_runSW (As := [.ref (x 0), .int (nI 1), .int (nI Z), .int (nI (1500 + ((Y / 12) % 2001))), .int (nI 0)]) (rest := []) ⟨hx, hb, hml, hown, hts⟩ (c_L_set_setSetpoint l D cI cZ cO cJ x a t b q ρ Z (nI (1500 + ((Y / 12) % 2001))) (nI 0) H.size hz (inR_nI (by omega) (by omega) (by decide))) (vx_cwSW (rm := rmL_set) 5 hts gL_law_L_set rfl rfl rfl (by decide +kernel) ⟨Nat.le_of_ble_eq_true rfl, Nat.le_of_ble_eq_true rfl⟩) (kPreSHW hK hN hX hC (pfP hP) (pfD hD) hS (kfree (pfD hD) hS hA)) rfl rfl hl.1 rfl (lv_room (Nat.le_of_ble_eq_true rfl)) dL_law_311 ⟨by show _ ≤ 743239; omega, by show _ ≤ 6871752; omega⟩) (fun r9 ρ H locs hr9 hP hD hS => ?_)
    have hr9 : r9 = qSe q Z := hr9
    subst hr9
    have hQ1 : QOK (qsSet q Z (nI (1500 + ((Y / 12) % 2001)))) := hQ.set (inR_nI (by omega) (by omega) (by decide))
    refine lv_iload hx hb dL_law_314 (lv_at hl 0 rfl) ?_
    refine lv_icmp_ne (tgt := 332) hx hb dL_law_316 (by decide) (fun c9 => absurd rfl c9) (fun _ => ?_)
    refine lv_aload_n hx hb dL_law_319 rfl (lv_at hl 2 rfl) ?_
    refine lv_iload hx hb dL_law_320 (lv_at hl 10 rfl) ?_
    refine kCallP_i (mc := 0) (ms := 0) (W1 := fun _ : Unit => wQ cI cZ cO x a t b (qsSet q Z (nI (1500 + ((Y / 12) % 2001)))) ρ) (fun _ _ h => h) hP hD hS hA (fun _ => rfl) (va_runV (As := [.int (nI Z)]) (rest := []) ⟨hx, hb, hml, hown, hts⟩ (c_X2_errors l D cI cZ cO cJ x a t b (qK (qsSet q Z (nI (1500 + ((Y / 12) % 2001))))) (qHo (qsSet q Z (nI (1500 + ((Y / 12) % 2001))))) (sT (qσ (qsSet q Z (nI (1500 + ((Y / 12) % 2001)))))) (sE (qσ (qsSet q Z (nI (1500 + ((Y / 12) % 2001)))))) (sD (qσ (qsSet q Z (nI (1500 + ((Y / 12) % 2001)))))) (sF (qσ (qsSet q Z (nI (1500 + ((Y / 12) % 2001)))))) (sS (qσ (qsSet q Z (nI (1500 + ((Y / 12) % 2001)))))) (sC (qσ (qsSet q Z (nI (1500 + ((Y / 12) % 2001)))))) (sL (qσ (qsSet q Z (nI (1500 + ((Y / 12) % 2001)))))) (sT ρ) (sE ρ) (sD ρ) (sF ρ) (sS ρ) (sC ρ) (sL ρ) (qLo (qsSet q Z (nI (1500 + ((Y / 12) % 2001))))) (qSe (qsSet q Z (nI (1500 + ((Y / 12) % 2001))))) (qEf (qsSet q Z (nI (1500 + ((Y / 12) % 2001))))) (qgp (qsSet q Z (nI (1500 + ((Y / 12) % 2001))))) (qgi (qsSet q Z (nI (1500 + ((Y / 12) % 2001))))) (qam (qsSet q Z (nI (1500 + ((Y / 12) % 2001))))) (qli (qsSet q Z (nI (1500 + ((Y / 12) % 2001))))) (qdl (qsSet q Z (nI (1500 + ((Y / 12) % 2001))))) Z H.size (by omega)) (cwV (rm := rmX2_errors) 1 hts gL_law_X2_errors rfl rfl rfl (by decide +kernel) ⟨Nat.le_of_ble_eq_true rfl, Nat.le_of_ble_eq_true rfl⟩) (kPreVW hK hN (pfP hP) (pfD hD) (va_recv hK (pfP hP) (ci := 2) (q0 := 0) rfl rfl)) rfl rfl hl.1 rfl (lv_room (Nat.le_of_ble_eq_true rfl)) dL_law_322 ⟨by show _ ≤ 743239; omega, by show _ ≤ 6871752; omega⟩) (fun r9 u9 H locs hr9 hP hD hS => ?_)
    have hr9 : r9 = sE (qσ (qsSet q Z (nI (1500 + ((Y / 12) % 2001))))) Z := hr9
    subst hr9
    refine lv_if_ne (tgt := 332) hx hb dL_law_325 (by decide) (fun c9 => absurd (set_E0 _ _ _) c9) (fun _ => ?_)
    refine lv_iconst (v := nI 1) hx hb dL_law_328 (by decide +kernel) ?_
    refine lv_goto (tgt := 333) hx hb dL_law_329 (by decide) ?_
    refine lv_istore (lv' := [(5, .int (nI 1)), (12, .int (qSe q Z)), (0, .ref bs), (1, .ref (x 0)), (2, .ref ae), (3, .ref az), (4, .ref ap), (6, .int (nI n)), (7, .int (nI X)), (8, .int (nI Y)), (10, .int (nI Z)), (11, .int (nI Fn))]) hx hb dL_law_333 hl (by decide) rfl (fun ls hl => ?_)
    refine lv_goto (tgt := 880) hx hb dL_law_335 (by decide) ?_
    refine W.widen (k := cl + 1) (n := sl + 6) (by omega) (by omega) ?_
    exact kk (qsSet q Z (nI (1500 + ((Y / 12) % 2001)))) ρ pf ef (upd zf (6 + Z) (nI (1500 + ((Y / 12) % 2001)))) B hQ1 (show qK q ≤ _ by omega) hp hE (hZ.set hz) H locs hP hD hS ls (lv_sub hl [2, 3, 4, 5, 6, 0, 7, 8] rfl)
  · refine lv_if_ne (tgt := 285) hx hb dL_law_266 (by decide) (fun _ => ?_) (fun c9 => absurd c9 (nI_ne0 (by omega) (by omega)))
    refine lv_sipush (v := nI 2000) hx hb dL_law_285 (by decide +kernel) ?_
    refine lv_iload hx hb dL_law_288 (lv_at hl 9 rfl) ?_
    refine lv_bipush (v := nI 12) hx hb dL_law_290 (by decide +kernel) ?_
    refine lv_idiv hx hb dL_law_292 (by decide +kernel) ?_
    refine k_as (y := nI (Y / 12)) (nI_div (by omega) (by decide) (by decide)) ?_
    refine lv_sipush (v := nI 500) hx hb dL_law_293 (by decide +kernel) ?_
    refine lv_irem hx hb dL_law_296 (by decide +kernel) ?_
    refine k_as (y := nI ((Y / 12) % 500)) (nI_mod (by omega) (by decide) (by decide)) ?_
    refine lv_iadd hx hb dL_law_297 ?_
    refine k_as (nI_add _ _) ?_
    refine k_iastT hx hb hK hP hD hS 2 0 rfl rfl (i := 6 + Z) (x := nI (2000 + ((Y / 12) % 500))) (by omega) (by decide) dL_law_298 (fun H locs hP hD hS => ?_)
    have hP : va_P D vwCl (wQ cI cZ cO x a t b q ρ ++ [(ap, .inl (cI, 6, .inl pf)), (ae, .inl (cI, 48, .inl ef)), (az, .inl (cI, 30, .inl (upd zf (6 + Z) (nI (2000 + ((Y / 12) % 500))))))]) H := hP
    have hD : va_D A (wQ cI cZ cO x a t b q ρ ++ [(ap, .inl (cI, 6, .inl pf)), (ae, .inl (cI, 48, .inl ef)), (az, .inl (cI, 30, .inl (upd zf (6 + Z) (nI (2000 + ((Y / 12) % 500))))))]) := hD
    refine lv_aload_n hx hb dL_law_299 rfl (lv_at hl 2 rfl) ?_
    refine lv_iconst (v := nI 1) hx hb dL_law_300 (by decide +kernel) ?_
    refine lv_iload hx hb dL_law_301 (lv_at hl 10 rfl) ?_
    refine lv_aload_n hx hb dL_law_303 rfl (lv_at hl 4 rfl) ?_
    refine lv_bipush (v := nI 6) hx hb dL_law_304 (by decide +kernel) ?_
    refine lv_iload hx hb dL_law_306 (lv_at hl 10 rfl) ?_
    refine lv_iadd hx hb dL_law_308 ?_
    refine k_as (nI_add _ _) ?_
    refine k_ialdT hx hb hK hP 2 0 rfl rfl (i := 6 + Z) (by omega) (by decide) dL_law_309 ?_
    refine k_as (y := nI (2000 + ((Y / 12) % 500))) (if_pos rfl) ?_
    refine lv_iconst (v := nI 0) hx hb dL_law_310 (by decide +kernel) ?_
    refine kCallP_i (mc := 0) (ms := 0) (T := [(ap, .inl (cI, 6, .inl pf)), (ae, .inl (cI, 48, .inl ef)), (az, .inl (cI, 30, .inl (upd zf (6 + Z) (nI (2000 + ((Y / 12) % 500))))))]) (W1 := fun ρ : HS => wQ cI cZ cO x a t b (qsSet q Z (nI (2000 + ((Y / 12) % 500)))) ρ) (fun _ _ h => h) hP hD hS hA (fun _ => rfl) (vx_runSW (As := [.ref (x 0), .int (nI 1), .int (nI Z), .int (nI (2000 + ((Y / 12) % 500))), .int (nI 0)]) (rest := []) ⟨hx, hb, hml, hown, hts⟩ (c_L_set_setSetpoint l D cI cZ cO cJ x a t b q ρ Z (nI (2000 + ((Y / 12) % 500))) (nI 0) H.size hz (inR_nI (by omega) (by omega) (by decide))) (vx_cwSW (rm := rmL_set) 5 hts gL_law_L_set rfl rfl rfl (by decide +kernel) ⟨Nat.le_of_ble_eq_true rfl, Nat.le_of_ble_eq_true rfl⟩) (kPreSHW hK hN hX hC (pfP hP) (pfD hD) hS (kfree (pfD hD) hS hA)) rfl rfl hl.1 rfl (lv_room (Nat.le_of_ble_eq_true rfl)) dL_law_311 ⟨by show _ ≤ 743239; omega, by show _ ≤ 6871752; omega⟩) (fun r9 ρ H locs hr9 hP hD hS => ?_)
    have hr9 : r9 = qSe q Z := hr9
    subst hr9
    have hQ1 : QOK (qsSet q Z (nI (2000 + ((Y / 12) % 500)))) := hQ.set (inR_nI (by omega) (by omega) (by decide))
    refine lv_iload hx hb dL_law_314 (lv_at hl 0 rfl) ?_
    refine lv_icmp_ne (tgt := 332) hx hb dL_law_316 (by decide) (fun c9 => absurd rfl c9) (fun _ => ?_)
    refine lv_aload_n hx hb dL_law_319 rfl (lv_at hl 2 rfl) ?_
    refine lv_iload hx hb dL_law_320 (lv_at hl 10 rfl) ?_
    refine kCallP_i (mc := 0) (ms := 0) (W1 := fun _ : Unit => wQ cI cZ cO x a t b (qsSet q Z (nI (2000 + ((Y / 12) % 500)))) ρ) (fun _ _ h => h) hP hD hS hA (fun _ => rfl) (va_runV (As := [.int (nI Z)]) (rest := []) ⟨hx, hb, hml, hown, hts⟩ (c_X2_errors l D cI cZ cO cJ x a t b (qK (qsSet q Z (nI (2000 + ((Y / 12) % 500))))) (qHo (qsSet q Z (nI (2000 + ((Y / 12) % 500))))) (sT (qσ (qsSet q Z (nI (2000 + ((Y / 12) % 500)))))) (sE (qσ (qsSet q Z (nI (2000 + ((Y / 12) % 500)))))) (sD (qσ (qsSet q Z (nI (2000 + ((Y / 12) % 500)))))) (sF (qσ (qsSet q Z (nI (2000 + ((Y / 12) % 500)))))) (sS (qσ (qsSet q Z (nI (2000 + ((Y / 12) % 500)))))) (sC (qσ (qsSet q Z (nI (2000 + ((Y / 12) % 500)))))) (sL (qσ (qsSet q Z (nI (2000 + ((Y / 12) % 500)))))) (sT ρ) (sE ρ) (sD ρ) (sF ρ) (sS ρ) (sC ρ) (sL ρ) (qLo (qsSet q Z (nI (2000 + ((Y / 12) % 500))))) (qSe (qsSet q Z (nI (2000 + ((Y / 12) % 500))))) (qEf (qsSet q Z (nI (2000 + ((Y / 12) % 500))))) (qgp (qsSet q Z (nI (2000 + ((Y / 12) % 500))))) (qgi (qsSet q Z (nI (2000 + ((Y / 12) % 500))))) (qam (qsSet q Z (nI (2000 + ((Y / 12) % 500))))) (qli (qsSet q Z (nI (2000 + ((Y / 12) % 500))))) (qdl (qsSet q Z (nI (2000 + ((Y / 12) % 500))))) Z H.size (by omega)) (cwV (rm := rmX2_errors) 1 hts gL_law_X2_errors rfl rfl rfl (by decide +kernel) ⟨Nat.le_of_ble_eq_true rfl, Nat.le_of_ble_eq_true rfl⟩) (kPreVW hK hN (pfP hP) (pfD hD) (va_recv hK (pfP hP) (ci := 2) (q0 := 0) rfl rfl)) rfl rfl hl.1 rfl (lv_room (Nat.le_of_ble_eq_true rfl)) dL_law_322 ⟨by show _ ≤ 743239; omega, by show _ ≤ 6871752; omega⟩) (fun r9 u9 H locs hr9 hP hD hS => ?_)
    have hr9 : r9 = sE (qσ (qsSet q Z (nI (2000 + ((Y / 12) % 500))))) Z := hr9
    subst hr9
    refine lv_if_ne (tgt := 332) hx hb dL_law_325 (by decide) (fun c9 => absurd (set_E0 _ _ _) c9) (fun _ => ?_)
    refine lv_iconst (v := nI 1) hx hb dL_law_328 (by decide +kernel) ?_
    refine lv_goto (tgt := 333) hx hb dL_law_329 (by decide) ?_
    refine lv_istore (lv' := [(5, .int (nI 1)), (12, .int (qSe q Z)), (0, .ref bs), (1, .ref (x 0)), (2, .ref ae), (3, .ref az), (4, .ref ap), (6, .int (nI n)), (7, .int (nI X)), (8, .int (nI Y)), (10, .int (nI Z)), (11, .int (nI Fn))]) hx hb dL_law_333 hl (by decide) rfl (fun ls hl => ?_)
    refine lv_goto (tgt := 880) hx hb dL_law_335 (by decide) ?_
    refine W.widen (k := cl + 1) (n := sl + 6) (by omega) (by omega) ?_
    exact kk (qsSet q Z (nI (2000 + ((Y / 12) % 500)))) ρ pf ef (upd zf (6 + Z) (nI (2000 + ((Y / 12) % 500)))) B hQ1 (show qK q ≤ _ by omega) hp hE (hZ.set hz) H locs hP hD hS ls (lv_sub hl [2, 3, 4, 5, 6, 0, 7, 8] rfl)

set_option maxHeartbeats 4000000 in
set_option maxRecDepth 100000 in
theorem br_eff {Y Z Fn : Nat} (h0 : LC p l s m args c D cI cZ cO cJ bs L xs A) (hn : n < 100) (hY : Y < 67108864) (hz : Z < 6) (hf : Fn < 8) (hcl : cl + 60 ≤ 743239) (hsl : sl + 360 ≤ 6871752) (hQ : QOK q) (hk : qK q ≤ 100 * n) (hp : PR pf q B) (hE : ER ef q) (hZ : ZR zf q) (hP : va_P D vwCl (wQ cI cZ cO x a t b q ρ ++ [(ap, .inl (cI, 6, .inl pf)), (ae, .inl (cI, 48, .inl ef)), (az, .inl (cI, 30, .inl zf))]) H) (hD : va_D A (wQ cI cZ cO x a t b q ρ ++ [(ap, .inl (cI, 6, .inl pf)), (ae, .inl (cI, 48, .inl ef)), (az, .inl (cI, 30, .inl zf))])) (hS : va_S A s.heap H locs) (hl : lv_has ls 14 [(0, .ref bs), (1, .ref (x 0)), (2, .ref ae), (3, .ref az), (4, .ref ap), (5, .int (nI 1)), (6, .int (nI n)), (7, .int (nI X)), (8, .int (nI Y)), (10, .int (nI Z)), (11, .int (nI Fn))]) (kk : Tl p l e s m args below meth c D cI cZ cO x a t b ap ae az bs A Q n X (cl + 1) (sl + 6)) : W p l e room_1 s m args below meth c H locs cl sl Q (F0 m 345 ls []) := by
  obtain ⟨hx, hb, hml, hts, hown, hK, hN, hX, hC, hA, hsc, hbl, hbA, hst, hL⟩ := h0
  refine lv_aload_n hx hb dL_law_345 rfl (lv_at hl 2 rfl) ?_
  refine lv_bipush (v := nI 6) hx hb dL_law_346 (by decide +kernel) ?_
  refine lv_iload hx hb dL_law_348 (lv_at hl 10 rfl) ?_
  refine lv_imul hx hb dL_law_350 ?_
  refine k_as (pk_mul _ _) ?_
  refine lv_iload hx hb dL_law_351 (lv_at hl 9 rfl) ?_
  refine lv_iadd hx hb dL_law_353 ?_
  refine k_as (nI_add _ _) ?_
  refine k_ialdT hx hb hK hP 1 0 rfl rfl (i := 6 * Fn + Z) (by omega) (by decide) dL_law_354 ?_
  refine k_as (y := qEf q Fn Z) (hE Fn Z (by omega) (by omega)) ?_
  refine lv_istore (lv' := [(12, .int (qEf q Fn Z)), (0, .ref bs), (1, .ref (x 0)), (2, .ref ae), (3, .ref az), (4, .ref ap), (5, .int (nI 1)), (6, .int (nI n)), (7, .int (nI X)), (8, .int (nI Y)), (10, .int (nI Z)), (11, .int (nI Fn))]) hx hb dL_law_355 hl (by decide) rfl (fun ls hl => ?_)
  refine lv_aload_n hx hb dL_law_357 rfl (lv_at hl 3 rfl) ?_
  refine lv_bipush (v := nI 6) hx hb dL_law_358 (by decide +kernel) ?_
  refine lv_iload hx hb dL_law_360 (lv_at hl 11 rfl) ?_
  refine lv_imul hx hb dL_law_362 ?_
  refine k_as (pk_mul _ _) ?_
  refine lv_iload hx hb dL_law_363 (lv_at hl 10 rfl) ?_
  refine lv_iadd hx hb dL_law_365 ?_
  refine k_as (nI_add _ _) ?_
  refine lv_iload hx hb dL_law_366 (lv_at hl 9 rfl) ?_
  refine lv_bipush (v := nI 48) hx hb dL_law_368 (by decide +kernel) ?_
  refine lv_idiv hx hb dL_law_370 (by decide +kernel) ?_
  refine k_as (y := nI (Y / 48)) (nI_div (by omega) (by decide) (by decide)) ?_
  refine lv_iconst (v := nI 3) hx hb dL_law_371 (by decide +kernel) ?_
  refine lv_irem hx hb dL_law_372 (by decide +kernel) ?_
  refine k_as (y := nI ((Y / 48) % 3)) (nI_mod (by omega) (by decide) (by decide)) ?_
  by_cases c1 : Y / 48 % 3 = 0
  · refine k_as (y := nI 0) (congrArg nI c1) ?_
    refine lv_if_ne (tgt := 380) hx hb dL_law_373 (by decide) (fun c9 => absurd (by decide +kernel) c9) (fun _ => ?_)
    refine lv_iconst (v := nI 0) hx hb dL_law_376 (by decide +kernel) ?_
    refine lv_goto (tgt := 389) hx hb dL_law_377 (by decide) ?_
    refine k_iastT hx hb hK hP hD hS 1 0 rfl rfl (i := 6 * Fn + Z) (x := nI 0) (by omega) (by decide) dL_law_389 (fun H locs hP hD hS => ?_)
    have hP : va_P D vwCl (wQ cI cZ cO x a t b q ρ ++ [(ap, .inl (cI, 6, .inl pf)), (ae, .inl (cI, 48, .inl (upd ef (6 * Fn + Z) (nI 0)))), (az, .inl (cI, 30, .inl zf))]) H := hP
    have hD : va_D A (wQ cI cZ cO x a t b q ρ ++ [(ap, .inl (cI, 6, .inl pf)), (ae, .inl (cI, 48, .inl (upd ef (6 * Fn + Z) (nI 0)))), (az, .inl (cI, 30, .inl zf))]) := hD
    refine lv_aload_n hx hb dL_law_390 rfl (lv_at hl 2 rfl) ?_
    refine lv_iconst (v := nI 2) hx hb dL_law_391 (by decide +kernel) ?_
    refine lv_iload hx hb dL_law_392 (lv_at hl 11 rfl) ?_
    refine lv_iload hx hb dL_law_394 (lv_at hl 10 rfl) ?_
    refine lv_aload_n hx hb dL_law_396 rfl (lv_at hl 3 rfl) ?_
    refine lv_bipush (v := nI 6) hx hb dL_law_397 (by decide +kernel) ?_
    refine lv_iload hx hb dL_law_399 (lv_at hl 11 rfl) ?_
    refine lv_imul hx hb dL_law_401 ?_
    refine k_as (pk_mul _ _) ?_
    refine lv_iload hx hb dL_law_402 (lv_at hl 10 rfl) ?_
    refine lv_iadd hx hb dL_law_404 ?_
    refine k_as (nI_add _ _) ?_
    refine k_ialdT hx hb hK hP 1 0 rfl rfl (i := 6 * Fn + Z) (by omega) (by decide) dL_law_405 ?_
    refine k_as (y := nI 0) (if_pos rfl) ?_
    refine kCallP_i (mc := 0) (ms := 0) (T := [(ap, .inl (cI, 6, .inl pf)), (ae, .inl (cI, 48, .inl (upd ef (6 * Fn + Z) (nI 0)))), (az, .inl (cI, 30, .inl zf))]) (W1 := fun ρ : HS => wQ cI cZ cO x a t b (qsEff q Fn Z (nI 0)) ρ) (fun _ _ h => h) hP hD hS hA (fun _ => rfl) (vx_runSW (As := [.ref (x 0), .int (nI 2), .int (nI Fn), .int (nI Z), .int (nI 0)]) (rest := []) ⟨hx, hb, hml, hown, hts⟩ (c_L_set_setEffect l D cI cZ cO cJ x a t b q ρ Fn Z (nI 0) H.size hf hz (inR_nI (by omega) (by omega) (by decide))) (vx_cwSW (rm := rmL_set) 5 hts gL_law_L_set rfl rfl rfl (by decide +kernel) ⟨Nat.le_of_ble_eq_true rfl, Nat.le_of_ble_eq_true rfl⟩) (kPreSHW hK hN hX hC (pfP hP) (pfD hD) hS (kfree (pfD hD) hS hA)) rfl rfl hl.1 rfl (lv_room (Nat.le_of_ble_eq_true rfl)) dL_law_406 ⟨by show _ ≤ 743239; omega, by show _ ≤ 6871752; omega⟩) (fun r9 ρ H locs hr9 hP hD hS => ?_)
    have hr9 : r9 = qEf q Fn Z := hr9
    subst hr9
    refine lv_iload hx hb dL_law_409 (lv_at hl 0 rfl) ?_
    refine lv_icmp_ne (tgt := 418) hx hb dL_law_411 (by decide) (fun c9 => absurd rfl c9) (fun _ => ?_)
    refine lv_iconst (v := nI 1) hx hb dL_law_414 (by decide +kernel) ?_
    refine lv_goto (tgt := 419) hx hb dL_law_415 (by decide) ?_
    refine lv_istore (lv' := [(5, .int (nI 1)), (12, .int (qEf q Fn Z)), (0, .ref bs), (1, .ref (x 0)), (2, .ref ae), (3, .ref az), (4, .ref ap), (6, .int (nI n)), (7, .int (nI X)), (8, .int (nI Y)), (10, .int (nI Z)), (11, .int (nI Fn))]) hx hb dL_law_419 hl (by decide) rfl (fun ls hl => ?_)
    refine lv_goto (tgt := 880) hx hb dL_law_421 (by decide) ?_
    refine W.widen (k := cl + 1) (n := sl + 6) (by omega) (by omega) ?_
    exact kk (qsEff q Fn Z (nI 0)) ρ pf (upd ef (6 * Fn + Z) (nI 0)) zf B (hQ.eff (inR_nI (by omega) (by omega) (by decide))) (show qK q ≤ _ by omega) hp (hE.eff hz) hZ H locs hP hD hS ls (lv_sub hl [2, 3, 4, 5, 6, 0, 7, 8] rfl)
  · refine lv_if_ne (tgt := 380) hx hb dL_law_373 (by decide) (fun _ => ?_) (fun c9 => absurd c9 (nI_ne0 (by omega) (by omega)))
    refine lv_iload hx hb dL_law_380 (lv_at hl 9 rfl) ?_
    refine lv_sipush (v := nI 144) hx hb dL_law_382 (by decide +kernel) ?_
    refine lv_idiv hx hb dL_law_385 (by decide +kernel) ?_
    refine k_as (y := nI (Y / 144)) (nI_div (by omega) (by decide) (by decide)) ?_
    refine lv_bipush (v := nI 101) hx hb dL_law_386 (by decide +kernel) ?_
    refine lv_irem hx hb dL_law_388 (by decide +kernel) ?_
    refine k_as (y := nI ((Y / 144) % 101)) (nI_mod (by omega) (by decide) (by decide)) ?_
    refine k_iastT hx hb hK hP hD hS 1 0 rfl rfl (i := 6 * Fn + Z) (x := nI ((Y / 144) % 101)) (by omega) (by decide) dL_law_389 (fun H locs hP hD hS => ?_)
    have hP : va_P D vwCl (wQ cI cZ cO x a t b q ρ ++ [(ap, .inl (cI, 6, .inl pf)), (ae, .inl (cI, 48, .inl (upd ef (6 * Fn + Z) (nI ((Y / 144) % 101))))), (az, .inl (cI, 30, .inl zf))]) H := hP
    have hD : va_D A (wQ cI cZ cO x a t b q ρ ++ [(ap, .inl (cI, 6, .inl pf)), (ae, .inl (cI, 48, .inl (upd ef (6 * Fn + Z) (nI ((Y / 144) % 101))))), (az, .inl (cI, 30, .inl zf))]) := hD
    refine lv_aload_n hx hb dL_law_390 rfl (lv_at hl 2 rfl) ?_
    refine lv_iconst (v := nI 2) hx hb dL_law_391 (by decide +kernel) ?_
    refine lv_iload hx hb dL_law_392 (lv_at hl 11 rfl) ?_
    refine lv_iload hx hb dL_law_394 (lv_at hl 10 rfl) ?_
    refine lv_aload_n hx hb dL_law_396 rfl (lv_at hl 3 rfl) ?_
    refine lv_bipush (v := nI 6) hx hb dL_law_397 (by decide +kernel) ?_
    refine lv_iload hx hb dL_law_399 (lv_at hl 11 rfl) ?_
    refine lv_imul hx hb dL_law_401 ?_
    refine k_as (pk_mul _ _) ?_
    refine lv_iload hx hb dL_law_402 (lv_at hl 10 rfl) ?_
    refine lv_iadd hx hb dL_law_404 ?_
    refine k_as (nI_add _ _) ?_
    refine k_ialdT hx hb hK hP 1 0 rfl rfl (i := 6 * Fn + Z) (by omega) (by decide) dL_law_405 ?_
    refine k_as (y := nI ((Y / 144) % 101)) (if_pos rfl) ?_
    refine kCallP_i (mc := 0) (ms := 0) (T := [(ap, .inl (cI, 6, .inl pf)), (ae, .inl (cI, 48, .inl (upd ef (6 * Fn + Z) (nI ((Y / 144) % 101))))), (az, .inl (cI, 30, .inl zf))]) (W1 := fun ρ : HS => wQ cI cZ cO x a t b (qsEff q Fn Z (nI ((Y / 144) % 101))) ρ) (fun _ _ h => h) hP hD hS hA (fun _ => rfl) (vx_runSW (As := [.ref (x 0), .int (nI 2), .int (nI Fn), .int (nI Z), .int (nI ((Y / 144) % 101))]) (rest := []) ⟨hx, hb, hml, hown, hts⟩ (c_L_set_setEffect l D cI cZ cO cJ x a t b q ρ Fn Z (nI ((Y / 144) % 101)) H.size hf hz (inR_nI (by omega) (by omega) (by decide))) (vx_cwSW (rm := rmL_set) 5 hts gL_law_L_set rfl rfl rfl (by decide +kernel) ⟨Nat.le_of_ble_eq_true rfl, Nat.le_of_ble_eq_true rfl⟩) (kPreSHW hK hN hX hC (pfP hP) (pfD hD) hS (kfree (pfD hD) hS hA)) rfl rfl hl.1 rfl (lv_room (Nat.le_of_ble_eq_true rfl)) dL_law_406 ⟨by show _ ≤ 743239; omega, by show _ ≤ 6871752; omega⟩) (fun r9 ρ H locs hr9 hP hD hS => ?_)
    have hr9 : r9 = qEf q Fn Z := hr9
    subst hr9
    refine lv_iload hx hb dL_law_409 (lv_at hl 0 rfl) ?_
    refine lv_icmp_ne (tgt := 418) hx hb dL_law_411 (by decide) (fun c9 => absurd rfl c9) (fun _ => ?_)
    refine lv_iconst (v := nI 1) hx hb dL_law_414 (by decide +kernel) ?_
    refine lv_goto (tgt := 419) hx hb dL_law_415 (by decide) ?_
    refine lv_istore (lv' := [(5, .int (nI 1)), (12, .int (qEf q Fn Z)), (0, .ref bs), (1, .ref (x 0)), (2, .ref ae), (3, .ref az), (4, .ref ap), (6, .int (nI n)), (7, .int (nI X)), (8, .int (nI Y)), (10, .int (nI Z)), (11, .int (nI Fn))]) hx hb dL_law_419 hl (by decide) rfl (fun ls hl => ?_)
    refine lv_goto (tgt := 880) hx hb dL_law_421 (by decide) ?_
    refine W.widen (k := cl + 1) (n := sl + 6) (by omega) (by omega) ?_
    exact kk (qsEff q Fn Z (nI ((Y / 144) % 101))) ρ pf (upd ef (6 * Fn + Z) (nI ((Y / 144) % 101))) zf B (hQ.eff (inR_nI (by omega) (by omega) (by decide))) (show qK q ≤ _ by omega) hp (hE.eff hz) hZ H locs hP hD hS ls (lv_sub hl [2, 3, 4, 5, 6, 0, 7, 8] rfl)

set_option maxHeartbeats 4000000 in
set_option maxRecDepth 100000 in
theorem br_gains {Y Z Fn : Nat} (h0 : LC p l s m args c D cI cZ cO cJ bs L xs A) (hn : n < 100) (hY : Y < 67108864) (hz : Z < 6) (hf : Fn < 8) (hcl : cl + 60 ≤ 743239) (hsl : sl + 360 ≤ 6871752) (hQ : QOK q) (hk : qK q ≤ 100 * n) (hp : PR pf q B) (hE : ER ef q) (hZ : ZR zf q) (hP : va_P D vwCl (wQ cI cZ cO x a t b q ρ ++ [(ap, .inl (cI, 6, .inl pf)), (ae, .inl (cI, 48, .inl ef)), (az, .inl (cI, 30, .inl zf))]) H) (hD : va_D A (wQ cI cZ cO x a t b q ρ ++ [(ap, .inl (cI, 6, .inl pf)), (ae, .inl (cI, 48, .inl ef)), (az, .inl (cI, 30, .inl zf))])) (hS : va_S A s.heap H locs) (hl : lv_has ls 14 [(0, .ref bs), (1, .ref (x 0)), (2, .ref ae), (3, .ref az), (4, .ref ap), (5, .int (nI 1)), (6, .int (nI n)), (7, .int (nI X)), (8, .int (nI Y)), (10, .int (nI Z)), (11, .int (nI Fn))]) (kk : Tl p l e s m args below meth c D cI cZ cO x a t b ap ae az bs A Q n X (cl + 1) (sl + 6)) : W p l e room_1 s m args below meth c H locs cl sl Q (F0 m 431 ls []) := by
  obtain ⟨hx, hb, hml, hts, hown, hK, hN, hX, hC, hA, hsc, hbl, hbA, hst, hL⟩ := h0
  refine lv_aload hx hb dL_law_431 (lv_at hl 4 rfl) ?_
  refine lv_iconst (v := nI 0) hx hb dL_law_433 (by decide +kernel) ?_
  refine lv_iload hx hb dL_law_434 (lv_at hl 8 rfl) ?_
  refine lv_sipush (v := nI 201) hx hb dL_law_436 (by decide +kernel) ?_
  refine lv_irem hx hb dL_law_439 (by decide +kernel) ?_
  refine k_as (y := nI (Y % 201)) (nI_mod (by omega) (by decide) (by decide)) ?_
  refine k_iastT hx hb hK hP hD hS 0 0 rfl rfl (i := 0) (x := nI (Y % 201)) (by decide) (by decide) dL_law_440 (fun H locs hP hD hS => ?_)
  have hP : va_P D vwCl (wQ cI cZ cO x a t b q ρ ++ [(ap, .inl (cI, 6, .inl (upd pf 0 (nI (Y % 201))))), (ae, .inl (cI, 48, .inl ef)), (az, .inl (cI, 30, .inl zf))]) H := hP
  have hD : va_D A (wQ cI cZ cO x a t b q ρ ++ [(ap, .inl (cI, 6, .inl (upd pf 0 (nI (Y % 201))))), (ae, .inl (cI, 48, .inl ef)), (az, .inl (cI, 30, .inl zf))]) := hD
  refine lv_aload hx hb dL_law_441 (lv_at hl 4 rfl) ?_
  refine lv_iconst (v := nI 1) hx hb dL_law_443 (by decide +kernel) ?_
  refine lv_iload hx hb dL_law_444 (lv_at hl 8 rfl) ?_
  refine lv_sipush (v := nI 201) hx hb dL_law_446 (by decide +kernel) ?_
  refine lv_idiv hx hb dL_law_449 (by decide +kernel) ?_
  refine k_as (y := nI (Y / 201)) (nI_div (by omega) (by decide) (by decide)) ?_
  refine lv_sipush (v := nI 201) hx hb dL_law_450 (by decide +kernel) ?_
  refine lv_irem hx hb dL_law_453 (by decide +kernel) ?_
  refine k_as (y := nI ((Y / 201) % 201)) (nI_mod (by omega) (by decide) (by decide)) ?_
  refine k_iastT hx hb hK hP hD hS 0 0 rfl rfl (i := 1) (x := nI ((Y / 201) % 201)) (by decide) (by decide) dL_law_454 (fun H locs hP hD hS => ?_)
  have hP : va_P D vwCl (wQ cI cZ cO x a t b q ρ ++ [(ap, .inl (cI, 6, .inl (upd (upd pf 0 (nI (Y % 201))) 1 (nI ((Y / 201) % 201))))), (ae, .inl (cI, 48, .inl ef)), (az, .inl (cI, 30, .inl zf))]) H := hP
  have hD : va_D A (wQ cI cZ cO x a t b q ρ ++ [(ap, .inl (cI, 6, .inl (upd (upd pf 0 (nI (Y % 201))) 1 (nI ((Y / 201) % 201))))), (ae, .inl (cI, 48, .inl ef)), (az, .inl (cI, 30, .inl zf))]) := hD
  refine lv_aload_n hx hb dL_law_455 rfl (lv_at hl 1 rfl) ?_
  refine lv_aload hx hb dL_law_456 (lv_at hl 4 rfl) ?_
  refine lv_iconst (v := nI 0) hx hb dL_law_458 (by decide +kernel) ?_
  refine k_ialdT hx hb hK hP 0 0 rfl rfl (i := 0) (by decide) (by decide) dL_law_459 ?_
  refine k_as (y := nI (Y % 201)) rfl ?_
  refine lv_aload hx hb dL_law_460 (lv_at hl 4 rfl) ?_
  refine lv_iconst (v := nI 1) hx hb dL_law_462 (by decide +kernel) ?_
  refine k_ialdT hx hb hK hP 0 0 rfl rfl (i := 1) (by decide) (by decide) dL_law_463 ?_
  refine k_as (y := nI ((Y / 201) % 201)) rfl ?_
  refine kCallP_i (mc := 0) (ms := 0) (T := [(ap, .inl (cI, 6, .inl (upd (upd pf 0 (nI (Y % 201))) 1 (nI ((Y / 201) % 201))))), (ae, .inl (cI, 48, .inl ef)), (az, .inl (cI, 30, .inl zf))]) (W1 := fun ρ : HS => wQ cI cZ cO x a t b (qsGains q (nI (Y % 201)) (nI (Y / 201 % 201))) ρ) (fun _ _ h => h) hP hD hS hA (fun _ => rfl) (vx_runSW (As := [.ref (x 0), .int (nI (Y % 201)), .int (nI ((Y / 201) % 201))]) (rest := []) ⟨hx, hb, hml, hown, hts⟩ (c_L_setGains l D cI cZ cO cJ x a t b q ρ (nI (Y % 201)) (nI (Y / 201 % 201)) H.size (inR_nI (by omega) (by omega) (by decide)) (inR_nI (by omega) (by omega) (by decide))) (vx_cwSW (rm := rmL_setGains) 3 hts gL_law_L_setGains rfl rfl rfl (by decide +kernel) ⟨Nat.le_of_ble_eq_true rfl, Nat.le_of_ble_eq_true rfl⟩) (kPreSHW hK hN hX hC (pfP hP) (pfD hD) hS (kfree (pfD hD) hS hA)) rfl rfl hl.1 rfl (lv_room (Nat.le_of_ble_eq_true rfl)) dL_law_464 ⟨by show _ ≤ 743239; omega, by show _ ≤ 6871752; omega⟩) (fun r9 ρ H locs hr9 hP hD hS => ?_)
  have hr9 : r9 = nI 0 := hr9
  subst hr9
  refine lv_if_ne (tgt := 474) hx hb dL_law_467 (by decide) (fun c9 => absurd (by decide +kernel) c9) (fun _ => ?_)
  refine lv_iconst (v := nI 1) hx hb dL_law_470 (by decide +kernel) ?_
  refine lv_goto (tgt := 475) hx hb dL_law_471 (by decide) ?_
  refine lv_istore (lv' := [(5, .int (nI 1)), (0, .ref bs), (1, .ref (x 0)), (2, .ref ae), (3, .ref az), (4, .ref ap), (6, .int (nI n)), (7, .int (nI X)), (8, .int (nI Y)), (10, .int (nI Z)), (11, .int (nI Fn))]) hx hb dL_law_475 hl (by decide) rfl (fun ls hl => ?_)
  refine lv_goto (tgt := 880) hx hb dL_law_477 (by decide) ?_
  refine W.widen (k := cl + 1) (n := sl + 6) (by omega) (by omega) ?_
  exact kk (qsGains q (nI (Y % 201)) (nI (Y / 201 % 201))) ρ (upd (upd pf 0 (nI (Y % 201))) 1 (nI ((Y / 201) % 201))) ef zf B (hQ.gains (inR_nI (by omega) (by omega) (by decide)) (inR_nI (by omega) (by omega) (by decide))) (show qK q ≤ _ by omega) hp.gains hE hZ H locs hP hD hS ls (lv_sub hl [1, 2, 3, 4, 5, 0, 6, 7] rfl)

set_option maxHeartbeats 4000000 in
set_option maxRecDepth 100000 in
theorem br_hall {Y Z Fn : Nat} (h0 : LC p l s m args c D cI cZ cO cJ bs L xs A) (hn : n < 100) (hY : Y < 67108864) (hz : Z < 6) (hf : Fn < 8) (hcl : cl + 60 ≤ 743239) (hsl : sl + 360 ≤ 6871752) (hQ : QOK q) (hk : qK q ≤ 100 * n) (hp : PR pf q B) (hE : ER ef q) (hZ : ZR zf q) (hP : va_P D vwCl (wQ cI cZ cO x a t b q ρ ++ [(ap, .inl (cI, 6, .inl pf)), (ae, .inl (cI, 48, .inl ef)), (az, .inl (cI, 30, .inl zf))]) H) (hD : va_D A (wQ cI cZ cO x a t b q ρ ++ [(ap, .inl (cI, 6, .inl pf)), (ae, .inl (cI, 48, .inl ef)), (az, .inl (cI, 30, .inl zf))])) (hS : va_S A s.heap H locs) (hl : lv_has ls 14 [(0, .ref bs), (1, .ref (x 0)), (2, .ref ae), (3, .ref az), (4, .ref ap), (5, .int (nI 1)), (6, .int (nI n)), (7, .int (nI X)), (8, .int (nI Y)), (10, .int (nI Z)), (11, .int (nI Fn))]) (kk : Tl p l e s m args below meth c D cI cZ cO x a t b ap ae az bs A Q n X (cl + 1) (sl + 6)) : W p l e room_1 s m args below meth c H locs cl sl Q (F0 m 487 ls []) := by
  obtain ⟨hx, hb, hml, hts, hown, hK, hN, hX, hC, hA, hsc, hbl, hbA, hst, hL⟩ := h0
  refine lv_aload hx hb dL_law_487 (lv_at hl 4 rfl) ?_
  refine lv_iconst (v := nI 2) hx hb dL_law_489 (by decide +kernel) ?_
  refine lv_iload hx hb dL_law_490 (lv_at hl 8 rfl) ?_
  refine lv_iconst (v := nI 3) hx hb dL_law_492 (by decide +kernel) ?_
  refine lv_irem hx hb dL_law_493 (by decide +kernel) ?_
  refine k_as (y := nI (Y % 3)) (nI_mod (by omega) (by decide) (by decide)) ?_
  by_cases c1 : Y % 3 = 0
  · refine k_as (y := nI 0) (congrArg nI c1) ?_
    refine lv_if_ne (tgt := 512) hx hb dL_law_494 (by decide) (fun c9 => absurd (by decide +kernel) c9) (fun _ => ?_)
    refine lv_sipush (v := nI 1000) hx hb dL_law_497 (by decide +kernel) ?_
    refine lv_iload hx hb dL_law_500 (lv_at hl 8 rfl) ?_
    refine lv_iconst (v := nI 3) hx hb dL_law_502 (by decide +kernel) ?_
    refine lv_idiv hx hb dL_law_503 (by decide +kernel) ?_
    refine k_as (y := nI (Y / 3)) (nI_div (by omega) (by decide) (by decide)) ?_
    refine lv_sipush (v := nI 4001) hx hb dL_law_504 (by decide +kernel) ?_
    refine lv_irem hx hb dL_law_507 (by decide +kernel) ?_
    refine k_as (y := nI ((Y / 3) % 4001)) (nI_mod (by omega) (by decide) (by decide)) ?_
    refine lv_iadd hx hb dL_law_508 ?_
    refine k_as (nI_add _ _) ?_
    refine lv_goto (tgt := 524) hx hb dL_law_509 (by decide) ?_
    refine k_iastT hx hb hK hP hD hS 0 0 rfl rfl (i := 2) (x := nI (1000 + ((Y / 3) % 4001))) (by decide) (by decide) dL_law_524 (fun H locs hP hD hS => ?_)
    have hP : va_P D vwCl (wQ cI cZ cO x a t b q ρ ++ [(ap, .inl (cI, 6, .inl (upd pf 2 (nI (1000 + ((Y / 3) % 4001)))))), (ae, .inl (cI, 48, .inl ef)), (az, .inl (cI, 30, .inl zf))]) H := hP
    have hD : va_D A (wQ cI cZ cO x a t b q ρ ++ [(ap, .inl (cI, 6, .inl (upd pf 2 (nI (1000 + ((Y / 3) % 4001)))))), (ae, .inl (cI, 48, .inl ef)), (az, .inl (cI, 30, .inl zf))]) := hD
    refine lv_aload hx hb dL_law_525 (lv_at hl 4 rfl) ?_
    refine lv_iconst (v := nI 3) hx hb dL_law_527 (by decide +kernel) ?_
    refine lv_sipush (v := nI 1000) hx hb dL_law_528 (by decide +kernel) ?_
    refine lv_iload hx hb dL_law_531 (lv_at hl 8 rfl) ?_
    refine lv_bipush (v := nI 40) hx hb dL_law_533 (by decide +kernel) ?_
    refine lv_idiv hx hb dL_law_535 (by decide +kernel) ?_
    refine k_as (y := nI (Y / 40)) (nI_div (by omega) (by decide) (by decide)) ?_
    refine lv_iload hx hb dL_law_536 (lv_at hl 8 rfl) ?_
    refine lv_iconst (v := nI 2) hx hb dL_law_538 (by decide +kernel) ?_
    refine lv_irem hx hb dL_law_539 (by decide +kernel) ?_
    refine k_as (y := nI (Y % 2)) (nI_mod (by omega) (by decide) (by decide)) ?_
    by_cases c2 : Y % 2 = 0
    · refine k_as (y := nI 0) (congrArg nI c2) ?_
      refine lv_if_ne (tgt := 549) hx hb dL_law_540 (by decide) (fun c9 => absurd (by decide +kernel) c9) (fun _ => ?_)
      refine lv_sipush (v := nI 4001) hx hb dL_law_543 (by decide +kernel) ?_
      refine lv_goto (tgt := 552) hx hb dL_law_546 (by decide) ?_
      refine lv_irem hx hb dL_law_552 (by decide +kernel) ?_
      refine k_as (y := nI ((Y / 40) % 4001)) (nI_mod (by omega) (by decide) (by decide)) ?_
      refine lv_iadd hx hb dL_law_553 ?_
      refine k_as (nI_add _ _) ?_
      refine k_iastT hx hb hK hP hD hS 0 0 rfl rfl (i := 3) (x := nI (1000 + ((Y / 40) % 4001))) (by decide) (by decide) dL_law_554 (fun H locs hP hD hS => ?_)
      have hP : va_P D vwCl (wQ cI cZ cO x a t b q ρ ++ [(ap, .inl (cI, 6, .inl (upd (upd pf 2 (nI (1000 + ((Y / 3) % 4001)))) 3 (nI (1000 + ((Y / 40) % 4001)))))), (ae, .inl (cI, 48, .inl ef)), (az, .inl (cI, 30, .inl zf))]) H := hP
      have hD : va_D A (wQ cI cZ cO x a t b q ρ ++ [(ap, .inl (cI, 6, .inl (upd (upd pf 2 (nI (1000 + ((Y / 3) % 4001)))) 3 (nI (1000 + ((Y / 40) % 4001)))))), (ae, .inl (cI, 48, .inl ef)), (az, .inl (cI, 30, .inl zf))]) := hD
      refine lv_aload_n hx hb dL_law_555 rfl (lv_at hl 1 rfl) ?_
      refine lv_aload hx hb dL_law_556 (lv_at hl 4 rfl) ?_
      refine lv_iconst (v := nI 2) hx hb dL_law_558 (by decide +kernel) ?_
      refine k_ialdT hx hb hK hP 0 0 rfl rfl (i := 2) (by decide) (by decide) dL_law_559 ?_
      refine k_as (y := nI (1000 + ((Y / 3) % 4001))) rfl ?_
      refine lv_aload hx hb dL_law_560 (lv_at hl 4 rfl) ?_
      refine lv_iconst (v := nI 3) hx hb dL_law_562 (by decide +kernel) ?_
      refine k_ialdT hx hb hK hP 0 0 rfl rfl (i := 3) (by decide) (by decide) dL_law_563 ?_
      refine k_as (y := nI (1000 + ((Y / 40) % 4001))) rfl ?_
      refine kCallP_i (mc := 0) (ms := 0) (T := [(ap, .inl (cI, 6, .inl (upd (upd pf 2 (nI (1000 + ((Y / 3) % 4001)))) 3 (nI (1000 + ((Y / 40) % 4001)))))), (ae, .inl (cI, 48, .inl ef)), (az, .inl (cI, 30, .inl zf))]) (W1 := fun ρ : HS => wQ cI cZ cO x a t b (qsHall q (nI (1000 + ((Y / 3) % 4001))) (nI (1000 + ((Y / 40) % 4001)))) ρ) (fun _ _ h => h) hP hD hS hA (fun _ => rfl) (vx_runSW (As := [.ref (x 0), .int (nI (1000 + ((Y / 3) % 4001))), .int (nI (1000 + ((Y / 40) % 4001)))]) (rest := []) ⟨hx, hb, hml, hown, hts⟩ (c_L_setHall l D cI cZ cO cJ x a t b q ρ (nI (1000 + ((Y / 3) % 4001))) (nI (1000 + ((Y / 40) % 4001))) H.size (inR_nI (by omega) (by omega) (by decide)) (inR_nI (by omega) (by omega) (by decide))) (vx_cwSW (rm := rmL_setHall) 3 hts gL_law_L_setHall rfl rfl rfl (by decide +kernel) ⟨Nat.le_of_ble_eq_true rfl, Nat.le_of_ble_eq_true rfl⟩) (kPreSHW hK hN hX hC (pfP hP) (pfD hD) hS (kfree (pfD hD) hS hA)) rfl rfl hl.1 rfl (lv_room (Nat.le_of_ble_eq_true rfl)) dL_law_564 ⟨by show _ ≤ 743239; omega, by show _ ≤ 6871752; omega⟩) (fun r9 ρ H locs hr9 hP hD hS => ?_)
      have hr9 : r9 = nI 0 := hr9
      subst hr9
      refine lv_if_ne (tgt := 574) hx hb dL_law_567 (by decide) (fun c9 => absurd (by decide +kernel) c9) (fun _ => ?_)
      refine lv_iconst (v := nI 1) hx hb dL_law_570 (by decide +kernel) ?_
      refine lv_goto (tgt := 575) hx hb dL_law_571 (by decide) ?_
      refine lv_istore (lv' := [(5, .int (nI 1)), (0, .ref bs), (1, .ref (x 0)), (2, .ref ae), (3, .ref az), (4, .ref ap), (6, .int (nI n)), (7, .int (nI X)), (8, .int (nI Y)), (10, .int (nI Z)), (11, .int (nI Fn))]) hx hb dL_law_575 hl (by decide) rfl (fun ls hl => ?_)
      refine lv_goto (tgt := 880) hx hb dL_law_577 (by decide) ?_
      refine W.widen (k := cl + 1) (n := sl + 6) (by omega) (by omega) ?_
      exact kk (qsHall q (nI (1000 + ((Y / 3) % 4001))) (nI (1000 + ((Y / 40) % 4001)))) ρ (upd (upd pf 2 (nI (1000 + ((Y / 3) % 4001)))) 3 (nI (1000 + ((Y / 40) % 4001)))) ef zf B (hQ.hall (inR_nI (by omega) (by omega) (by decide)) (inR_nI (by omega) (by omega) (by decide))) (show qK q ≤ _ by omega) hp.hall hE hZ H locs hP hD hS ls (lv_sub hl [1, 2, 3, 4, 5, 0, 6, 7] rfl)
    · refine lv_if_ne (tgt := 549) hx hb dL_law_540 (by decide) (fun _ => ?_) (fun c9 => absurd c9 (nI_ne0 (by omega) (by omega)))
      refine lv_sipush (v := nI 2000) hx hb dL_law_549 (by decide +kernel) ?_
      refine lv_irem hx hb dL_law_552 (by decide +kernel) ?_
      refine k_as (y := nI ((Y / 40) % 2000)) (nI_mod (by omega) (by decide) (by decide)) ?_
      refine lv_iadd hx hb dL_law_553 ?_
      refine k_as (nI_add _ _) ?_
      refine k_iastT hx hb hK hP hD hS 0 0 rfl rfl (i := 3) (x := nI (1000 + ((Y / 40) % 2000))) (by decide) (by decide) dL_law_554 (fun H locs hP hD hS => ?_)
      have hP : va_P D vwCl (wQ cI cZ cO x a t b q ρ ++ [(ap, .inl (cI, 6, .inl (upd (upd pf 2 (nI (1000 + ((Y / 3) % 4001)))) 3 (nI (1000 + ((Y / 40) % 2000)))))), (ae, .inl (cI, 48, .inl ef)), (az, .inl (cI, 30, .inl zf))]) H := hP
      have hD : va_D A (wQ cI cZ cO x a t b q ρ ++ [(ap, .inl (cI, 6, .inl (upd (upd pf 2 (nI (1000 + ((Y / 3) % 4001)))) 3 (nI (1000 + ((Y / 40) % 2000)))))), (ae, .inl (cI, 48, .inl ef)), (az, .inl (cI, 30, .inl zf))]) := hD
      refine lv_aload_n hx hb dL_law_555 rfl (lv_at hl 1 rfl) ?_
      refine lv_aload hx hb dL_law_556 (lv_at hl 4 rfl) ?_
      refine lv_iconst (v := nI 2) hx hb dL_law_558 (by decide +kernel) ?_
      refine k_ialdT hx hb hK hP 0 0 rfl rfl (i := 2) (by decide) (by decide) dL_law_559 ?_
      refine k_as (y := nI (1000 + ((Y / 3) % 4001))) rfl ?_
      refine lv_aload hx hb dL_law_560 (lv_at hl 4 rfl) ?_
      refine lv_iconst (v := nI 3) hx hb dL_law_562 (by decide +kernel) ?_
      refine k_ialdT hx hb hK hP 0 0 rfl rfl (i := 3) (by decide) (by decide) dL_law_563 ?_
      refine k_as (y := nI (1000 + ((Y / 40) % 2000))) rfl ?_
      refine kCallP_i (mc := 0) (ms := 0) (T := [(ap, .inl (cI, 6, .inl (upd (upd pf 2 (nI (1000 + ((Y / 3) % 4001)))) 3 (nI (1000 + ((Y / 40) % 2000)))))), (ae, .inl (cI, 48, .inl ef)), (az, .inl (cI, 30, .inl zf))]) (W1 := fun ρ : HS => wQ cI cZ cO x a t b (qsHall q (nI (1000 + ((Y / 3) % 4001))) (nI (1000 + ((Y / 40) % 2000)))) ρ) (fun _ _ h => h) hP hD hS hA (fun _ => rfl) (vx_runSW (As := [.ref (x 0), .int (nI (1000 + ((Y / 3) % 4001))), .int (nI (1000 + ((Y / 40) % 2000)))]) (rest := []) ⟨hx, hb, hml, hown, hts⟩ (c_L_setHall l D cI cZ cO cJ x a t b q ρ (nI (1000 + ((Y / 3) % 4001))) (nI (1000 + ((Y / 40) % 2000))) H.size (inR_nI (by omega) (by omega) (by decide)) (inR_nI (by omega) (by omega) (by decide))) (vx_cwSW (rm := rmL_setHall) 3 hts gL_law_L_setHall rfl rfl rfl (by decide +kernel) ⟨Nat.le_of_ble_eq_true rfl, Nat.le_of_ble_eq_true rfl⟩) (kPreSHW hK hN hX hC (pfP hP) (pfD hD) hS (kfree (pfD hD) hS hA)) rfl rfl hl.1 rfl (lv_room (Nat.le_of_ble_eq_true rfl)) dL_law_564 ⟨by show _ ≤ 743239; omega, by show _ ≤ 6871752; omega⟩) (fun r9 ρ H locs hr9 hP hD hS => ?_)
      have hr9 : r9 = nI 0 := hr9
      subst hr9
      refine lv_if_ne (tgt := 574) hx hb dL_law_567 (by decide) (fun c9 => absurd (by decide +kernel) c9) (fun _ => ?_)
      refine lv_iconst (v := nI 1) hx hb dL_law_570 (by decide +kernel) ?_
      refine lv_goto (tgt := 575) hx hb dL_law_571 (by decide) ?_
      refine lv_istore (lv' := [(5, .int (nI 1)), (0, .ref bs), (1, .ref (x 0)), (2, .ref ae), (3, .ref az), (4, .ref ap), (6, .int (nI n)), (7, .int (nI X)), (8, .int (nI Y)), (10, .int (nI Z)), (11, .int (nI Fn))]) hx hb dL_law_575 hl (by decide) rfl (fun ls hl => ?_)
      refine lv_goto (tgt := 880) hx hb dL_law_577 (by decide) ?_
      refine W.widen (k := cl + 1) (n := sl + 6) (by omega) (by omega) ?_
      exact kk (qsHall q (nI (1000 + ((Y / 3) % 4001))) (nI (1000 + ((Y / 40) % 2000)))) ρ (upd (upd pf 2 (nI (1000 + ((Y / 3) % 4001)))) 3 (nI (1000 + ((Y / 40) % 2000)))) ef zf B (hQ.hall (inR_nI (by omega) (by omega) (by decide)) (inR_nI (by omega) (by omega) (by decide))) (show qK q ≤ _ by omega) hp.hall hE hZ H locs hP hD hS ls (lv_sub hl [1, 2, 3, 4, 5, 0, 6, 7] rfl)
  · refine lv_if_ne (tgt := 512) hx hb dL_law_494 (by decide) (fun _ => ?_) (fun c9 => absurd c9 (nI_ne0 (by omega) (by omega)))
    refine lv_sipush (v := nI 2000) hx hb dL_law_512 (by decide +kernel) ?_
    refine lv_iload hx hb dL_law_515 (lv_at hl 8 rfl) ?_
    refine lv_iconst (v := nI 3) hx hb dL_law_517 (by decide +kernel) ?_
    refine lv_idiv hx hb dL_law_518 (by decide +kernel) ?_
    refine k_as (y := nI (Y / 3)) (nI_div (by omega) (by decide) (by decide)) ?_
    refine lv_sipush (v := nI 1000) hx hb dL_law_519 (by decide +kernel) ?_
    refine lv_irem hx hb dL_law_522 (by decide +kernel) ?_
    refine k_as (y := nI ((Y / 3) % 1000)) (nI_mod (by omega) (by decide) (by decide)) ?_
    refine lv_iadd hx hb dL_law_523 ?_
    refine k_as (nI_add _ _) ?_
    refine k_iastT hx hb hK hP hD hS 0 0 rfl rfl (i := 2) (x := nI (2000 + ((Y / 3) % 1000))) (by decide) (by decide) dL_law_524 (fun H locs hP hD hS => ?_)
    have hP : va_P D vwCl (wQ cI cZ cO x a t b q ρ ++ [(ap, .inl (cI, 6, .inl (upd pf 2 (nI (2000 + ((Y / 3) % 1000)))))), (ae, .inl (cI, 48, .inl ef)), (az, .inl (cI, 30, .inl zf))]) H := hP
    have hD : va_D A (wQ cI cZ cO x a t b q ρ ++ [(ap, .inl (cI, 6, .inl (upd pf 2 (nI (2000 + ((Y / 3) % 1000)))))), (ae, .inl (cI, 48, .inl ef)), (az, .inl (cI, 30, .inl zf))]) := hD
    refine lv_aload hx hb dL_law_525 (lv_at hl 4 rfl) ?_
    refine lv_iconst (v := nI 3) hx hb dL_law_527 (by decide +kernel) ?_
    refine lv_sipush (v := nI 1000) hx hb dL_law_528 (by decide +kernel) ?_
    refine lv_iload hx hb dL_law_531 (lv_at hl 8 rfl) ?_
    refine lv_bipush (v := nI 40) hx hb dL_law_533 (by decide +kernel) ?_
    refine lv_idiv hx hb dL_law_535 (by decide +kernel) ?_
    refine k_as (y := nI (Y / 40)) (nI_div (by omega) (by decide) (by decide)) ?_
    refine lv_iload hx hb dL_law_536 (lv_at hl 8 rfl) ?_
    refine lv_iconst (v := nI 2) hx hb dL_law_538 (by decide +kernel) ?_
    refine lv_irem hx hb dL_law_539 (by decide +kernel) ?_
    refine k_as (y := nI (Y % 2)) (nI_mod (by omega) (by decide) (by decide)) ?_
    by_cases c2 : Y % 2 = 0
    · refine k_as (y := nI 0) (congrArg nI c2) ?_
      refine lv_if_ne (tgt := 549) hx hb dL_law_540 (by decide) (fun c9 => absurd (by decide +kernel) c9) (fun _ => ?_)
      refine lv_sipush (v := nI 4001) hx hb dL_law_543 (by decide +kernel) ?_
      refine lv_goto (tgt := 552) hx hb dL_law_546 (by decide) ?_
      refine lv_irem hx hb dL_law_552 (by decide +kernel) ?_
      refine k_as (y := nI ((Y / 40) % 4001)) (nI_mod (by omega) (by decide) (by decide)) ?_
      refine lv_iadd hx hb dL_law_553 ?_
      refine k_as (nI_add _ _) ?_
      refine k_iastT hx hb hK hP hD hS 0 0 rfl rfl (i := 3) (x := nI (1000 + ((Y / 40) % 4001))) (by decide) (by decide) dL_law_554 (fun H locs hP hD hS => ?_)
      have hP : va_P D vwCl (wQ cI cZ cO x a t b q ρ ++ [(ap, .inl (cI, 6, .inl (upd (upd pf 2 (nI (2000 + ((Y / 3) % 1000)))) 3 (nI (1000 + ((Y / 40) % 4001)))))), (ae, .inl (cI, 48, .inl ef)), (az, .inl (cI, 30, .inl zf))]) H := hP
      have hD : va_D A (wQ cI cZ cO x a t b q ρ ++ [(ap, .inl (cI, 6, .inl (upd (upd pf 2 (nI (2000 + ((Y / 3) % 1000)))) 3 (nI (1000 + ((Y / 40) % 4001)))))), (ae, .inl (cI, 48, .inl ef)), (az, .inl (cI, 30, .inl zf))]) := hD
      refine lv_aload_n hx hb dL_law_555 rfl (lv_at hl 1 rfl) ?_
      refine lv_aload hx hb dL_law_556 (lv_at hl 4 rfl) ?_
      refine lv_iconst (v := nI 2) hx hb dL_law_558 (by decide +kernel) ?_
      refine k_ialdT hx hb hK hP 0 0 rfl rfl (i := 2) (by decide) (by decide) dL_law_559 ?_
      refine k_as (y := nI (2000 + ((Y / 3) % 1000))) rfl ?_
      refine lv_aload hx hb dL_law_560 (lv_at hl 4 rfl) ?_
      refine lv_iconst (v := nI 3) hx hb dL_law_562 (by decide +kernel) ?_
      refine k_ialdT hx hb hK hP 0 0 rfl rfl (i := 3) (by decide) (by decide) dL_law_563 ?_
      refine k_as (y := nI (1000 + ((Y / 40) % 4001))) rfl ?_
      refine kCallP_i (mc := 0) (ms := 0) (T := [(ap, .inl (cI, 6, .inl (upd (upd pf 2 (nI (2000 + ((Y / 3) % 1000)))) 3 (nI (1000 + ((Y / 40) % 4001)))))), (ae, .inl (cI, 48, .inl ef)), (az, .inl (cI, 30, .inl zf))]) (W1 := fun ρ : HS => wQ cI cZ cO x a t b (qsHall q (nI (2000 + ((Y / 3) % 1000))) (nI (1000 + ((Y / 40) % 4001)))) ρ) (fun _ _ h => h) hP hD hS hA (fun _ => rfl) (vx_runSW (As := [.ref (x 0), .int (nI (2000 + ((Y / 3) % 1000))), .int (nI (1000 + ((Y / 40) % 4001)))]) (rest := []) ⟨hx, hb, hml, hown, hts⟩ (c_L_setHall l D cI cZ cO cJ x a t b q ρ (nI (2000 + ((Y / 3) % 1000))) (nI (1000 + ((Y / 40) % 4001))) H.size (inR_nI (by omega) (by omega) (by decide)) (inR_nI (by omega) (by omega) (by decide))) (vx_cwSW (rm := rmL_setHall) 3 hts gL_law_L_setHall rfl rfl rfl (by decide +kernel) ⟨Nat.le_of_ble_eq_true rfl, Nat.le_of_ble_eq_true rfl⟩) (kPreSHW hK hN hX hC (pfP hP) (pfD hD) hS (kfree (pfD hD) hS hA)) rfl rfl hl.1 rfl (lv_room (Nat.le_of_ble_eq_true rfl)) dL_law_564 ⟨by show _ ≤ 743239; omega, by show _ ≤ 6871752; omega⟩) (fun r9 ρ H locs hr9 hP hD hS => ?_)
      have hr9 : r9 = nI 0 := hr9
      subst hr9
      refine lv_if_ne (tgt := 574) hx hb dL_law_567 (by decide) (fun c9 => absurd (by decide +kernel) c9) (fun _ => ?_)
      refine lv_iconst (v := nI 1) hx hb dL_law_570 (by decide +kernel) ?_
      refine lv_goto (tgt := 575) hx hb dL_law_571 (by decide) ?_
      refine lv_istore (lv' := [(5, .int (nI 1)), (0, .ref bs), (1, .ref (x 0)), (2, .ref ae), (3, .ref az), (4, .ref ap), (6, .int (nI n)), (7, .int (nI X)), (8, .int (nI Y)), (10, .int (nI Z)), (11, .int (nI Fn))]) hx hb dL_law_575 hl (by decide) rfl (fun ls hl => ?_)
      refine lv_goto (tgt := 880) hx hb dL_law_577 (by decide) ?_
      refine W.widen (k := cl + 1) (n := sl + 6) (by omega) (by omega) ?_
      exact kk (qsHall q (nI (2000 + ((Y / 3) % 1000))) (nI (1000 + ((Y / 40) % 4001)))) ρ (upd (upd pf 2 (nI (2000 + ((Y / 3) % 1000)))) 3 (nI (1000 + ((Y / 40) % 4001)))) ef zf B (hQ.hall (inR_nI (by omega) (by omega) (by decide)) (inR_nI (by omega) (by omega) (by decide))) (show qK q ≤ _ by omega) hp.hall hE hZ H locs hP hD hS ls (lv_sub hl [1, 2, 3, 4, 5, 0, 6, 7] rfl)
    · refine lv_if_ne (tgt := 549) hx hb dL_law_540 (by decide) (fun _ => ?_) (fun c9 => absurd c9 (nI_ne0 (by omega) (by omega)))
      refine lv_sipush (v := nI 2000) hx hb dL_law_549 (by decide +kernel) ?_
      refine lv_irem hx hb dL_law_552 (by decide +kernel) ?_
      refine k_as (y := nI ((Y / 40) % 2000)) (nI_mod (by omega) (by decide) (by decide)) ?_
      refine lv_iadd hx hb dL_law_553 ?_
      refine k_as (nI_add _ _) ?_
      refine k_iastT hx hb hK hP hD hS 0 0 rfl rfl (i := 3) (x := nI (1000 + ((Y / 40) % 2000))) (by decide) (by decide) dL_law_554 (fun H locs hP hD hS => ?_)
      have hP : va_P D vwCl (wQ cI cZ cO x a t b q ρ ++ [(ap, .inl (cI, 6, .inl (upd (upd pf 2 (nI (2000 + ((Y / 3) % 1000)))) 3 (nI (1000 + ((Y / 40) % 2000)))))), (ae, .inl (cI, 48, .inl ef)), (az, .inl (cI, 30, .inl zf))]) H := hP
      have hD : va_D A (wQ cI cZ cO x a t b q ρ ++ [(ap, .inl (cI, 6, .inl (upd (upd pf 2 (nI (2000 + ((Y / 3) % 1000)))) 3 (nI (1000 + ((Y / 40) % 2000)))))), (ae, .inl (cI, 48, .inl ef)), (az, .inl (cI, 30, .inl zf))]) := hD
      refine lv_aload_n hx hb dL_law_555 rfl (lv_at hl 1 rfl) ?_
      refine lv_aload hx hb dL_law_556 (lv_at hl 4 rfl) ?_
      refine lv_iconst (v := nI 2) hx hb dL_law_558 (by decide +kernel) ?_
      refine k_ialdT hx hb hK hP 0 0 rfl rfl (i := 2) (by decide) (by decide) dL_law_559 ?_
      refine k_as (y := nI (2000 + ((Y / 3) % 1000))) rfl ?_
      refine lv_aload hx hb dL_law_560 (lv_at hl 4 rfl) ?_
      refine lv_iconst (v := nI 3) hx hb dL_law_562 (by decide +kernel) ?_
      refine k_ialdT hx hb hK hP 0 0 rfl rfl (i := 3) (by decide) (by decide) dL_law_563 ?_
      refine k_as (y := nI (1000 + ((Y / 40) % 2000))) rfl ?_
      refine kCallP_i (mc := 0) (ms := 0) (T := [(ap, .inl (cI, 6, .inl (upd (upd pf 2 (nI (2000 + ((Y / 3) % 1000)))) 3 (nI (1000 + ((Y / 40) % 2000)))))), (ae, .inl (cI, 48, .inl ef)), (az, .inl (cI, 30, .inl zf))]) (W1 := fun ρ : HS => wQ cI cZ cO x a t b (qsHall q (nI (2000 + ((Y / 3) % 1000))) (nI (1000 + ((Y / 40) % 2000)))) ρ) (fun _ _ h => h) hP hD hS hA (fun _ => rfl) (vx_runSW (As := [.ref (x 0), .int (nI (2000 + ((Y / 3) % 1000))), .int (nI (1000 + ((Y / 40) % 2000)))]) (rest := []) ⟨hx, hb, hml, hown, hts⟩ (c_L_setHall l D cI cZ cO cJ x a t b q ρ (nI (2000 + ((Y / 3) % 1000))) (nI (1000 + ((Y / 40) % 2000))) H.size (inR_nI (by omega) (by omega) (by decide)) (inR_nI (by omega) (by omega) (by decide))) (vx_cwSW (rm := rmL_setHall) 3 hts gL_law_L_setHall rfl rfl rfl (by decide +kernel) ⟨Nat.le_of_ble_eq_true rfl, Nat.le_of_ble_eq_true rfl⟩) (kPreSHW hK hN hX hC (pfP hP) (pfD hD) hS (kfree (pfD hD) hS hA)) rfl rfl hl.1 rfl (lv_room (Nat.le_of_ble_eq_true rfl)) dL_law_564 ⟨by show _ ≤ 743239; omega, by show _ ≤ 6871752; omega⟩) (fun r9 ρ H locs hr9 hP hD hS => ?_)
      have hr9 : r9 = nI 0 := hr9
      subst hr9
      refine lv_if_ne (tgt := 574) hx hb dL_law_567 (by decide) (fun c9 => absurd (by decide +kernel) c9) (fun _ => ?_)
      refine lv_iconst (v := nI 1) hx hb dL_law_570 (by decide +kernel) ?_
      refine lv_goto (tgt := 575) hx hb dL_law_571 (by decide) ?_
      refine lv_istore (lv' := [(5, .int (nI 1)), (0, .ref bs), (1, .ref (x 0)), (2, .ref ae), (3, .ref az), (4, .ref ap), (6, .int (nI n)), (7, .int (nI X)), (8, .int (nI Y)), (10, .int (nI Z)), (11, .int (nI Fn))]) hx hb dL_law_575 hl (by decide) rfl (fun ls hl => ?_)
      refine lv_goto (tgt := 880) hx hb dL_law_577 (by decide) ?_
      refine W.widen (k := cl + 1) (n := sl + 6) (by omega) (by omega) ?_
      exact kk (qsHall q (nI (2000 + ((Y / 3) % 1000))) (nI (1000 + ((Y / 40) % 2000)))) ρ (upd (upd pf 2 (nI (2000 + ((Y / 3) % 1000)))) 3 (nI (1000 + ((Y / 40) % 2000)))) ef zf B (hQ.hall (inR_nI (by omega) (by omega) (by decide)) (inR_nI (by omega) (by omega) (by decide))) (show qK q ≤ _ by omega) hp.hall hE hZ H locs hP hD hS ls (lv_sub hl [1, 2, 3, 4, 5, 0, 6, 7] rfl)

set_option maxHeartbeats 4000000 in
set_option maxRecDepth 100000 in
theorem br_delay {Y Z Fn : Nat} (h0 : LC p l s m args c D cI cZ cO cJ bs L xs A) (hn : n < 100) (hY : Y < 67108864) (hz : Z < 6) (hf : Fn < 8) (hcl : cl + 60 ≤ 743239) (hsl : sl + 360 ≤ 6871752) (hQ : QOK q) (hk : qK q ≤ 100 * n) (hp : PR pf q B) (hE : ER ef q) (hZ : ZR zf q) (hP : va_P D vwCl (wQ cI cZ cO x a t b q ρ ++ [(ap, .inl (cI, 6, .inl pf)), (ae, .inl (cI, 48, .inl ef)), (az, .inl (cI, 30, .inl zf))]) H) (hD : va_D A (wQ cI cZ cO x a t b q ρ ++ [(ap, .inl (cI, 6, .inl pf)), (ae, .inl (cI, 48, .inl ef)), (az, .inl (cI, 30, .inl zf))])) (hS : va_S A s.heap H locs) (hl : lv_has ls 14 [(0, .ref bs), (1, .ref (x 0)), (2, .ref ae), (3, .ref az), (4, .ref ap), (5, .int (nI 1)), (6, .int (nI n)), (7, .int (nI X)), (8, .int (nI Y)), (10, .int (nI Z)), (11, .int (nI Fn))]) (kk : Tl p l e s m args below meth c D cI cZ cO x a t b ap ae az bs A Q n X (cl + 1) (sl + 6)) : W p l e room_1 s m args below meth c H locs cl sl Q (F0 m 587 ls []) := by
  obtain ⟨hx, hb, hml, hts, hown, hK, hN, hX, hC, hA, hsc, hbl, hbA, hst, hL⟩ := h0
  refine lv_aload hx hb dL_law_587 (lv_at hl 4 rfl) ?_
  refine lv_iconst (v := nI 4) hx hb dL_law_589 (by decide +kernel) ?_
  refine k_ialdT hx hb hK hP 0 0 rfl rfl (i := 4) (by decide) (by decide) dL_law_590 ?_
  refine k_as (y := nI (qdl q)) hp.2.2.2.2.1 ?_
  refine lv_istore (lv' := [(12, .int (nI (qdl q))), (0, .ref bs), (1, .ref (x 0)), (2, .ref ae), (3, .ref az), (4, .ref ap), (5, .int (nI 1)), (6, .int (nI n)), (7, .int (nI X)), (8, .int (nI Y)), (10, .int (nI Z)), (11, .int (nI Fn))]) hx hb dL_law_591 hl (by decide) rfl (fun ls hl => ?_)
  refine lv_aload hx hb dL_law_593 (lv_at hl 5 rfl) ?_
  refine lv_iconst (v := nI 4) hx hb dL_law_595 (by decide +kernel) ?_
  refine lv_iload hx hb dL_law_596 (lv_at hl 9 rfl) ?_
  refine lv_bipush (v := nI 9) hx hb dL_law_598 (by decide +kernel) ?_
  refine lv_irem hx hb dL_law_600 (by decide +kernel) ?_
  refine k_as (y := nI (Y % 9)) (nI_mod (by omega) (by decide) (by decide)) ?_
  refine k_iastT hx hb hK hP hD hS 0 0 rfl rfl (i := 4) (x := nI (Y % 9)) (by decide) (by decide) dL_law_601 (fun H locs hP hD hS => ?_)
  have hP : va_P D vwCl (wQ cI cZ cO x a t b q ρ ++ [(ap, .inl (cI, 6, .inl (upd pf 4 (nI (Y % 9))))), (ae, .inl (cI, 48, .inl ef)), (az, .inl (cI, 30, .inl zf))]) H := hP
  have hD : va_D A (wQ cI cZ cO x a t b q ρ ++ [(ap, .inl (cI, 6, .inl (upd pf 4 (nI (Y % 9))))), (ae, .inl (cI, 48, .inl ef)), (az, .inl (cI, 30, .inl zf))]) := hD
  refine lv_aload_n hx hb dL_law_602 rfl (lv_at hl 2 rfl) ?_
  refine lv_iconst (v := nI 3) hx hb dL_law_603 (by decide +kernel) ?_
  refine lv_aload hx hb dL_law_604 (lv_at hl 5 rfl) ?_
  refine lv_iconst (v := nI 4) hx hb dL_law_606 (by decide +kernel) ?_
  refine k_ialdT hx hb hK hP 0 0 rfl rfl (i := 4) (by decide) (by decide) dL_law_607 ?_
  refine k_as (y := nI (Y % 9)) rfl ?_
  refine lv_iconst (v := nI 0) hx hb dL_law_608 (by decide +kernel) ?_
  refine lv_iconst (v := nI 0) hx hb dL_law_609 (by decide +kernel) ?_
  refine kCallP_i (mc := 0) (ms := 0) (T := [(ap, .inl (cI, 6, .inl (upd pf 4 (nI (Y % 9))))), (ae, .inl (cI, 48, .inl ef)), (az, .inl (cI, 30, .inl zf))]) (W1 := fun ρ : HS => wQ cI cZ cO x a t b (qsDelay q (Y % 9)) ρ) (fun _ _ h => h) hP hD hS hA (fun _ => rfl) (vx_runSW (As := [.ref (x 0), .int (nI 3), .int (nI (Y % 9)), .int (nI 0), .int (nI 0)]) (rest := []) ⟨hx, hb, hml, hown, hts⟩ (c_L_set_setDelay l D cI cZ cO cJ x a t b q ρ (Y % 9) (nI 0) (nI 0) H.size (by omega)) (vx_cwSW (rm := rmL_set) 5 hts gL_law_L_set rfl rfl rfl (by decide +kernel) ⟨Nat.le_of_ble_eq_true rfl, Nat.le_of_ble_eq_true rfl⟩) (kPreSHW hK hN hX hC (pfP hP) (pfD hD) hS (kfree (pfD hD) hS hA)) rfl rfl hl.1 rfl (lv_room (Nat.le_of_ble_eq_true rfl)) dL_law_610 ⟨by show _ ≤ 743239; omega, by show _ ≤ 6871752; omega⟩) (fun r9 ρ H locs hr9 hP hD hS => ?_)
  have hr9 : r9 = nI (qdl q) := hr9
  subst hr9
  refine lv_iload hx hb dL_law_613 (lv_at hl 0 rfl) ?_
  refine lv_icmp_ne (tgt := 622) hx hb dL_law_615 (by decide) (fun c9 => absurd rfl c9) (fun _ => ?_)
  refine lv_iconst (v := nI 1) hx hb dL_law_618 (by decide +kernel) ?_
  refine lv_goto (tgt := 623) hx hb dL_law_619 (by decide) ?_
  refine lv_istore (lv' := [(5, .int (nI 1)), (12, .int (nI (qdl q))), (0, .ref bs), (1, .ref (x 0)), (2, .ref ae), (3, .ref az), (4, .ref ap), (6, .int (nI n)), (7, .int (nI X)), (8, .int (nI Y)), (10, .int (nI Z)), (11, .int (nI Fn))]) hx hb dL_law_623 hl (by decide) rfl (fun ls hl => ?_)
  refine lv_goto (tgt := 880) hx hb dL_law_625 (by decide) ?_
  refine W.widen (k := cl + 1) (n := sl + 6) (by omega) (by omega) ?_
  exact kk (qsDelay q (Y % 9)) ρ (upd pf 4 (nI (Y % 9))) ef zf B (hQ.delay (by omega)) (show qK q ≤ _ by omega) hp.delay hE hZ H locs hP hD hS ls (lv_sub hl [2, 3, 4, 5, 6, 0, 7, 8] rfl)

set_option maxHeartbeats 4000000 in
set_option maxRecDepth 100000 in
theorem br_fail {Y Z Fn : Nat} (h0 : LC p l s m args c D cI cZ cO cJ bs L xs A) (hn : n < 100) (hY : Y < 67108864) (hz : Z < 6) (hf : Fn < 8) (hcl : cl + 60 ≤ 743239) (hsl : sl + 360 ≤ 6871752) (hQ : QOK q) (hk : qK q ≤ 100 * n) (hp : PR pf q B) (hE : ER ef q) (hZ : ZR zf q) (hP : va_P D vwCl (wQ cI cZ cO x a t b q ρ ++ [(ap, .inl (cI, 6, .inl pf)), (ae, .inl (cI, 48, .inl ef)), (az, .inl (cI, 30, .inl zf))]) H) (hD : va_D A (wQ cI cZ cO x a t b q ρ ++ [(ap, .inl (cI, 6, .inl pf)), (ae, .inl (cI, 48, .inl ef)), (az, .inl (cI, 30, .inl zf))])) (hS : va_S A s.heap H locs) (hl : lv_has ls 14 [(0, .ref bs), (1, .ref (x 0)), (2, .ref ae), (3, .ref az), (4, .ref ap), (5, .int (nI 1)), (6, .int (nI n)), (7, .int (nI X)), (8, .int (nI Y)), (10, .int (nI Z)), (11, .int (nI Fn))]) (kk : Tl p l e s m args below meth c D cI cZ cO x a t b ap ae az bs A Q n X (cl + 1) (sl + 6)) : W p l e room_1 s m args below meth c H locs cl sl Q (F0 m 635 ls []) := by
  obtain ⟨hx, hb, hml, hts, hown, hK, hN, hX, hC, hA, hsc, hbl, hbA, hst, hL⟩ := h0
  refine lv_aload_n hx hb dL_law_635 rfl (lv_at hl 1 rfl) ?_
  refine lv_iload hx hb dL_law_636 (lv_at hl 10 rfl) ?_
  refine lv_iload hx hb dL_law_638 (lv_at hl 9 rfl) ?_
  refine lv_iconst (v := nI 1) hx hb dL_law_640 (by decide +kernel) ?_
  refine lv_iload hx hb dL_law_641 (lv_at hl 8 rfl) ?_
  refine lv_bipush (v := nI 48) hx hb dL_law_643 (by decide +kernel) ?_
  refine lv_idiv hx hb dL_law_645 (by decide +kernel) ?_
  refine k_as (y := nI (Y / 48)) (nI_div (by omega) (by decide) (by decide)) ?_
  refine lv_bipush (v := nI 12) hx hb dL_law_646 (by decide +kernel) ?_
  refine lv_irem hx hb dL_law_648 (by decide +kernel) ?_
  refine k_as (y := nI ((Y / 48) % 12)) (nI_mod (by omega) (by decide) (by decide)) ?_
  refine lv_iadd hx hb dL_law_649 ?_
  refine k_as (nI_add _ _) ?_
  refine k_as (y := nI (Y / 48 % 12 + 1)) (congrArg nI (Nat.add_comm _ _)) ?_
  rcases hQ.F Fn hf with hF | hF
  · refine lv_aload hx hb dL_law_650 (lv_at hl 4 rfl) ?_
    have hPc : va_P D vwCl ((wQ cI cZ cO x a t b q ρ ++ [(ap, .inl (cI, 6, .inl pf))]) ++ [(ae, .inl (cI, 48, .inl ef)), (az, .inl (cI, 30, .inl zf))]) H := by rw [List.append_assoc]; exact hP
    have hDc : va_D A ((wQ cI cZ cO x a t b q ρ ++ [(ap, .inl (cI, 6, .inl pf))]) ++ [(ae, .inl (cI, 48, .inl ef)), (az, .inl (cI, 30, .inl zf))]) := by rw [List.append_assoc]; exact hD
    refine kCallP_i (mc := 1) (ms := 6) (T := [(ae, .inl (cI, 48, .inl ef)), (az, .inl (cI, 30, .inl zf))]) (W1 := fun ρ : HS => wQ cI cZ cO x a t b (qsFail q Fn) ρ ++ [(ap, .inl (cI, 6, .inl (upd pf 5 (pf 5 ||| (nI 1 <<< (nI Fn &&& 31))))))]) (fun _ _ h => h) hPc hDc hS hA (fun _ => rfl) (va_runS (As := [.ref (x 0), .int (nI Fn), .int (nI Z), .int (nI (Y / 48 % 12 + 1)), .ref ap]) (rest := []) ⟨hx, hb, hml, hown, hts⟩ (c_L_isFailing_can l hst D cI cZ cO cJ x a t b q ρ ap pf B Fn Z (Y / 48 % 12) H.size hQ hp hf hz (by omega) hF) (va_cwS (rm := rxL_isFailing) 5 hts gL_law_L_isFailing rfl rfl rfl (by decide +kernel) ⟨Nat.le_of_ble_eq_true rfl, Nat.le_of_ble_eq_true rfl⟩) (kPreSHW hK hN hX hC (pfP hPc) (pfD hDc) hS (kfree (pfD hDc) hS hA)) rfl rfl hl.1 rfl (lv_room (Nat.le_of_ble_eq_true rfl)) dL_law_652 ⟨by show _ ≤ 743239; omega, by show _ ≤ 6871752; omega⟩) (fun r9 ρ H locs hr9 hP hD hS => ?_)
    have hr9 : r9 = nI 1 := hr9
    subst hr9
    have hP : va_P D vwCl (wQ cI cZ cO x a t b (qsFail q Fn) ρ ++ [(ap, .inl (cI, 6, .inl (upd pf 5 (pf 5 ||| (nI 1 <<< (nI Fn &&& 31)))))), (ae, .inl (cI, 48, .inl ef)), (az, .inl (cI, 30, .inl zf))]) H := by rw [List.append_assoc] at hP; exact hP
    have hD : va_D A (wQ cI cZ cO x a t b (qsFail q Fn) ρ ++ [(ap, .inl (cI, 6, .inl (upd pf 5 (pf 5 ||| (nI 1 <<< (nI Fn &&& 31)))))), (ae, .inl (cI, 48, .inl ef)), (az, .inl (cI, 30, .inl zf))]) := by rw [List.append_assoc] at hD; exact hD
    refine W.widen (k := cl + 1) (n := sl + 6) (by omega) (by omega) ?_
    refine lv_istore (lv' := [(5, .int (nI 1)), (0, .ref bs), (1, .ref (x 0)), (2, .ref ae), (3, .ref az), (4, .ref ap), (6, .int (nI n)), (7, .int (nI X)), (8, .int (nI Y)), (10, .int (nI Z)), (11, .int (nI Fn))]) hx hb dL_law_655 hl (by decide) rfl (fun ls hl => ?_)
    refine lv_goto (tgt := 880) hx hb dL_law_657 (by decide) ?_
    exact kk (qsFail q Fn) ρ (upd pf 5 (pf 5 ||| (nI 1 <<< (nI Fn &&& 31)))) ef zf (B ||| 2 ^ Fn) hQ.fail (show qK q ≤ _ by omega) (hp.fail hf) hE hZ H locs hP hD hS ls (lv_sub hl [1, 2, 3, 4, 5, 0, 6, 7] rfl)
  · refine lv_aload hx hb dL_law_650 (lv_at hl 4 rfl) ?_
    have hPc : va_P D vwCl ((wQ cI cZ cO x a t b q ρ ++ [(ap, .inl (cI, 6, .inl pf))]) ++ [(ae, .inl (cI, 48, .inl ef)), (az, .inl (cI, 30, .inl zf))]) H := by rw [List.append_assoc]; exact hP
    have hDc : va_D A ((wQ cI cZ cO x a t b q ρ ++ [(ap, .inl (cI, 6, .inl pf))]) ++ [(ae, .inl (cI, 48, .inl ef)), (az, .inl (cI, 30, .inl zf))]) := by rw [List.append_assoc]; exact hD
    refine kCallP_i (mc := 1) (ms := 6) (T := [(ae, .inl (cI, 48, .inl ef)), (az, .inl (cI, 30, .inl zf))]) (W1 := fun ρ : HS => wQ cI cZ cO x a t b q ρ ++ [(ap, .inl (cI, 6, .inl (upd pf 5 (pf 5 ||| (nI 1 <<< (nI Fn &&& 31))))))]) (fun _ _ h => h) hPc hDc hS hA (fun _ => rfl) (va_runS (As := [.ref (x 0), .int (nI Fn), .int (nI Z), .int (nI (Y / 48 % 12 + 1)), .ref ap]) (rest := []) ⟨hx, hb, hml, hown, hts⟩ (c_L_isFailing_not l hst D cI cZ cO cJ x a t b q ρ ap pf B Fn Z (Y / 48 % 12) H.size hQ hp hf hz (by omega) hF) (va_cwS (rm := rxL_isFailing) 5 hts gL_law_L_isFailing rfl rfl rfl (by decide +kernel) ⟨Nat.le_of_ble_eq_true rfl, Nat.le_of_ble_eq_true rfl⟩) (kPreSHW hK hN hX hC (pfP hPc) (pfD hDc) hS (kfree (pfD hDc) hS hA)) rfl rfl hl.1 rfl (lv_room (Nat.le_of_ble_eq_true rfl)) dL_law_652 ⟨by show _ ≤ 743239; omega, by show _ ≤ 6871752; omega⟩) (fun r9 ρ H locs hr9 hP hD hS => ?_)
    have hr9 : r9 = nI 1 := hr9
    subst hr9
    have hP : va_P D vwCl (wQ cI cZ cO x a t b q ρ ++ [(ap, .inl (cI, 6, .inl (upd pf 5 (pf 5 ||| (nI 1 <<< (nI Fn &&& 31)))))), (ae, .inl (cI, 48, .inl ef)), (az, .inl (cI, 30, .inl zf))]) H := by rw [List.append_assoc] at hP; exact hP
    have hD : va_D A (wQ cI cZ cO x a t b q ρ ++ [(ap, .inl (cI, 6, .inl (upd pf 5 (pf 5 ||| (nI 1 <<< (nI Fn &&& 31)))))), (ae, .inl (cI, 48, .inl ef)), (az, .inl (cI, 30, .inl zf))]) := by rw [List.append_assoc] at hD; exact hD
    refine W.widen (k := cl + 1) (n := sl + 6) (by omega) (by omega) ?_
    refine lv_istore (lv' := [(5, .int (nI 1)), (0, .ref bs), (1, .ref (x 0)), (2, .ref ae), (3, .ref az), (4, .ref ap), (6, .int (nI n)), (7, .int (nI X)), (8, .int (nI Y)), (10, .int (nI Z)), (11, .int (nI Fn))]) hx hb dL_law_655 hl (by decide) rfl (fun ls hl => ?_)
    refine lv_goto (tgt := 880) hx hb dL_law_657 (by decide) ?_
    exact kk q ρ (upd pf 5 (pf 5 ||| (nI 1 <<< (nI Fn &&& 31)))) ef zf (B ||| 2 ^ Fn) hQ (by omega) (hp.fail2 hf hF) hE hZ H locs hP hD hS ls (lv_sub hl [1, 2, 3, 4, 5, 0, 6, 7] rfl)

end LB
