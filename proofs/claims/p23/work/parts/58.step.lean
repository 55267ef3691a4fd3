section LB
variable {p : Program} {l : Launch} {e : Env} {s : State} {m : MethodId} {args : Array Value} {below : List Frame} {meth : Method} {c : Code} {Q : State → Prop} {D : va_G} {cI cZ cO cJ : ClassId} {x a t b : Nat → Nat} {ap ae az bs L : Nat} {xs : Nat → Int32} {A : Nat → Prop} {n X cl sl : Nat}
variable {q : QS} {ρ : HS} {pf ef zf : Nat → Int32} {B : Nat} {H : Heap} {locs : List Loc} {ls : Array Slot}
set_option maxHeartbeats 4000000 in
set_option maxRecDepth 100000 in
theorem law_step (h0 : LC p l s m args c D cI cZ cO cJ bs L xs A) (hn : n < 100) (hcl : cl + 120 ≤ 743239) (hsl : sl + 720 ≤ 6871752) (kk : Hd p l e s m args below meth c D cI cZ cO x a t b ap ae az bs A Q (n + 1) (cl + 49) (sl + 294)) : Hd p l e s m args below meth c D cI cZ cO x a t b ap ae az bs A Q n cl sl := by
  intro q ρ pf ef zf B hQ hk hp hE hZ H locs hP hD hS ls hl
  obtain ⟨hx, hb, hml, hts, hown, hK, hN, hX, hC, hA, hsc, hbl, hbA, hst, hL⟩ := id h0
  refine lv_iload hx hb dL_law_138 (lv_at hl 6 rfl) ?_
  refine lv_bipush (v := nI 100) hx hb dL_law_140 (by decide +kernel) ?_
  refine lv_icmp_ge (tgt := 973) hx hb dL_law_142 (by decide) (fun c9 => absurd c9 (nI_ge hn (by decide))) (fun _ => ?_)
  refine lv_iload hx hb dL_law_145 (lv_at hl 5 rfl) ?_
  refine lv_if_eq (tgt := 973) hx hb dL_law_147 (by decide) (fun c9 => absurd c9 (by decide +kernel)) (fun _ => ?_)
  refine lv_aload_n hx hb dL_law_150 rfl (lv_at hl 0 rfl) ?_
  refine lv_iload hx hb dL_law_151 (lv_at hl 6 rfl) ?_
  refine kCallD hP hS hA (va_runS (As := [.ref bs, .int (nI n)]) (rest := []) ⟨hx, hb, hml, hown, hts⟩ (c_L_dice l bs L xs n H.size hL hn) (va_cwS (rm := rmL_dice) 2 hts gL_law_L_dice rfl rfl rfl (by decide +kernel) ⟨Nat.le_of_ble_eq_true rfl, Nat.le_of_ble_eq_true rfl⟩) (kPreD hsc hbl hbA hS) rfl rfl hl.1 rfl (lv_room (Nat.le_of_ble_eq_true rfl)) dL_law_153 ⟨by show _ ≤ 743239; omega, by show _ ≤ 6871752; omega⟩) (fun H locs hP hS => ?_)
  obtain ⟨X, hX0, eX⟩ := dI_N xs L n
  refine k_as (y := nI X) eX ?_
  refine lv_istore (lv' := [(7, .int (nI X)), (0, .ref bs), (1, .ref (x 0)), (2, .ref ae), (3, .ref az), (4, .ref ap), (5, .int (nI 1)), (6, .int (nI n))]) hx hb dL_law_156 hl (by decide) rfl (fun ls hl => ?_)
  have kt : Tl p l e s m args below meth c D cI cZ cO x a t b ap ae az bs A Q n X (cl + 1) (sl + 6) := law_tl h0 hn hX0 (by omega) (by omega) kk
  refine lv_iload hx hb dL_law_158 (lv_at hl 0 rfl) ?_
  refine lv_bipush (v := nI 32) hx hb dL_law_160 (by decide +kernel) ?_
  refine lv_idiv hx hb dL_law_162 (by decide +kernel) ?_
  refine k_as (y := nI (X / 32)) (nI_div (by omega) (by decide) (by decide)) ?_
  refine lv_istore (lv' := [(8, .int (nI (X / 32))), (7, .int (nI X)), (0, .ref bs), (1, .ref (x 0)), (2, .ref ae), (3, .ref az), (4, .ref ap), (5, .int (nI 1)), (6, .int (nI n))]) hx hb dL_law_163 hl (by decide) rfl (fun ls hl => ?_)
  refine lv_iload hx hb dL_law_165 (lv_at hl 1 rfl) ?_
  refine lv_bipush (v := nI 32) hx hb dL_law_167 (by decide +kernel) ?_
  refine lv_irem hx hb dL_law_169 (by decide +kernel) ?_
  refine k_as (y := nI (X % 32)) (nI_mod (by omega) (by decide) (by decide)) ?_
  refine lv_istore (lv' := [(9, .int (nI (X % 32))), (8, .int (nI (X / 32))), (7, .int (nI X)), (0, .ref bs), (1, .ref (x 0)), (2, .ref ae), (3, .ref az), (4, .ref ap), (5, .int (nI 1)), (6, .int (nI n))]) hx hb dL_law_170 hl (by decide) rfl (fun ls hl => ?_)
  refine lv_iload hx hb dL_law_172 (lv_at hl 1 rfl) ?_
  refine lv_bipush (v := nI 6) hx hb dL_law_174 (by decide +kernel) ?_
  refine lv_irem hx hb dL_law_176 (by decide +kernel) ?_
  refine k_as (y := nI ((X / 32) % 6)) (nI_mod (by omega) (by decide) (by decide)) ?_
  refine lv_istore (lv' := [(10, .int (nI ((X / 32) % 6))), (9, .int (nI (X % 32))), (8, .int (nI (X / 32))), (7, .int (nI X)), (0, .ref bs), (1, .ref (x 0)), (2, .ref ae), (3, .ref az), (4, .ref ap), (5, .int (nI 1)), (6, .int (nI n))]) hx hb dL_law_177 hl (by decide) rfl (fun ls hl => ?_)
  refine lv_iload hx hb dL_law_179 (lv_at hl 2 rfl) ?_
  refine lv_bipush (v := nI 6) hx hb dL_law_181 (by decide +kernel) ?_
  refine lv_idiv hx hb dL_law_183 (by decide +kernel) ?_
  refine k_as (y := nI ((X / 32) / 6)) (nI_div (by omega) (by decide) (by decide)) ?_
  refine lv_bipush (v := nI 8) hx hb dL_law_184 (by decide +kernel) ?_
  refine lv_irem hx hb dL_law_186 (by decide +kernel) ?_
  refine k_as (y := nI (((X / 32) / 6) % 8)) (nI_mod (by omega) (by decide) (by decide)) ?_
  refine lv_istore (lv' := [(11, .int (nI (((X / 32) / 6) % 8))), (10, .int (nI ((X / 32) % 6))), (9, .int (nI (X % 32))), (8, .int (nI (X / 32))), (7, .int (nI X)), (0, .ref bs), (1, .ref (x 0)), (2, .ref ae), (3, .ref az), (4, .ref ap), (5, .int (nI 1)), (6, .int (nI n))]) hx hb dL_law_187 hl (by decide) rfl (fun ls hl => ?_)
  refine lv_iload hx hb dL_law_189 (lv_at hl 2 rfl) ?_
  refine lv_iconst (v := nI 5) hx hb dL_law_191 (by decide +kernel) ?_
  by_cases cc1 : X % 32 < 5
  · refine lv_icmp_ge (tgt := 241) hx hb dL_law_192 (by decide) (fun c9 => absurd c9 (nI_ge cc1 (by decide))) (fun _ => ?_)
    exact br_load (Y := X / 32) (Z := X / 32 % 6) (Fn := X / 32 / 6 % 8) h0 hn (by omega) (by omega) (by omega) (by omega) (by omega) hQ hk hp hE hZ hP hD hS (lv_sub hl [5, 6, 7, 8, 9, 10, 11, 4, 3, 1, 0] rfl) kt
  · refine lv_icmp_ge (tgt := 241) hx hb dL_law_192 (by decide) (fun _ => ?_) (fun c9 => absurd (nI_le (by omega) (by omega)) c9)
    refine lv_iload hx hb dL_law_241 (lv_at hl 2 rfl) ?_
    refine lv_iconst (v := nI 5) hx hb dL_law_243 (by decide +kernel) ?_
    by_cases cc2 : X % 32 = 5
    · refine lv_icmp_ne (tgt := 338) hx hb dL_law_244 (by decide) (fun c9 => absurd (congrArg nI cc2) c9) (fun _ => ?_)
      exact br_set (Y := X / 32) (Z := X / 32 % 6) (Fn := X / 32 / 6 % 8) h0 hn (by omega) (by omega) (by omega) (by omega) (by omega) hQ hk hp hE hZ hP hD hS (lv_sub hl [5, 6, 7, 8, 9, 10, 11, 4, 3, 1, 0] rfl) kt
    · refine lv_icmp_ne (tgt := 338) hx hb dL_law_244 (by decide) (fun _ => ?_) (fun c9 => absurd c9 (fun g9 => cc2 ((nI_eq (by omega) (by decide)).mp g9)))
      refine lv_iload hx hb dL_law_338 (lv_at hl 2 rfl) ?_
      refine lv_bipush (v := nI 8) hx hb dL_law_340 (by decide +kernel) ?_
      by_cases cc3 : X % 32 < 8
      · refine lv_icmp_ge (tgt := 424) hx hb dL_law_342 (by decide) (fun c9 => absurd c9 (nI_ge cc3 (by decide))) (fun _ => ?_)
        exact br_eff (Y := X / 32) (Z := X / 32 % 6) (Fn := X / 32 / 6 % 8) h0 hn (by omega) (by omega) (by omega) (by omega) (by omega) hQ hk hp hE hZ hP hD hS (lv_sub hl [5, 6, 7, 8, 9, 10, 11, 4, 3, 1, 0] rfl) kt
      · refine lv_icmp_ge (tgt := 424) hx hb dL_law_342 (by decide) (fun _ => ?_) (fun c9 => absurd (nI_le (by omega) (by omega)) c9)
        refine lv_iload hx hb dL_law_424 (lv_at hl 2 rfl) ?_
        refine lv_bipush (v := nI 8) hx hb dL_law_426 (by decide +kernel) ?_
        by_cases cc4 : X % 32 = 8
        · refine lv_icmp_ne (tgt := 480) hx hb dL_law_428 (by decide) (fun c9 => absurd (congrArg nI cc4) c9) (fun _ => ?_)
          exact br_gains (Y := X / 32) (Z := X / 32 % 6) (Fn := X / 32 / 6 % 8) h0 hn (by omega) (by omega) (by omega) (by omega) (by omega) hQ hk hp hE hZ hP hD hS (lv_sub hl [5, 6, 7, 8, 9, 10, 11, 4, 3, 1, 0] rfl) kt
        · refine lv_icmp_ne (tgt := 480) hx hb dL_law_428 (by decide) (fun _ => ?_) (fun c9 => absurd c9 (fun g9 => cc4 ((nI_eq (by omega) (by decide)).mp g9)))
          refine lv_iload hx hb dL_law_480 (lv_at hl 2 rfl) ?_
          refine lv_bipush (v := nI 9) hx hb dL_law_482 (by decide +kernel) ?_
          by_cases cc5 : X % 32 = 9
          · refine lv_icmp_ne (tgt := 580) hx hb dL_law_484 (by decide) (fun c9 => absurd (congrArg nI cc5) c9) (fun _ => ?_)
            exact br_hall (Y := X / 32) (Z := X / 32 % 6) (Fn := X / 32 / 6 % 8) h0 hn (by omega) (by omega) (by omega) (by omega) (by omega) hQ hk hp hE hZ hP hD hS (lv_sub hl [5, 6, 7, 8, 9, 10, 11, 4, 3, 1, 0] rfl) kt
          · refine lv_icmp_ne (tgt := 580) hx hb dL_law_484 (by decide) (fun _ => ?_) (fun c9 => absurd c9 (fun g9 => cc5 ((nI_eq (by omega) (by decide)).mp g9)))
            refine lv_iload hx hb dL_law_580 (lv_at hl 2 rfl) ?_
            refine lv_bipush (v := nI 10) hx hb dL_law_582 (by decide +kernel) ?_
            by_cases cc6 : X % 32 = 10
            · refine lv_icmp_ne (tgt := 628) hx hb dL_law_584 (by decide) (fun c9 => absurd (congrArg nI cc6) c9) (fun _ => ?_)
              exact br_delay (Y := X / 32) (Z := X / 32 % 6) (Fn := X / 32 / 6 % 8) h0 hn (by omega) (by omega) (by omega) (by omega) (by omega) hQ hk hp hE hZ hP hD hS (lv_sub hl [5, 6, 7, 8, 9, 10, 11, 4, 3, 1, 0] rfl) kt
            · refine lv_icmp_ne (tgt := 628) hx hb dL_law_584 (by decide) (fun _ => ?_) (fun c9 => absurd c9 (fun g9 => cc6 ((nI_eq (by omega) (by decide)).mp g9)))
              refine lv_iload hx hb dL_law_628 (lv_at hl 2 rfl) ?_
              refine lv_bipush (v := nI 14) hx hb dL_law_630 (by decide +kernel) ?_
              by_cases cc7 : X % 32 < 14
              · refine lv_icmp_ge (tgt := 660) hx hb dL_law_632 (by decide) (fun c9 => absurd c9 (nI_ge cc7 (by decide))) (fun _ => ?_)
                exact br_fail (Y := X / 32) (Z := X / 32 % 6) (Fn := X / 32 / 6 % 8) h0 hn (by omega) (by omega) (by omega) (by omega) (by omega) hQ hk hp hE hZ hP hD hS (lv_sub hl [5, 6, 7, 8, 9, 10, 11, 4, 3, 1, 0] rfl) kt
              · refine lv_icmp_ge (tgt := 660) hx hb dL_law_632 (by decide) (fun _ => ?_) (fun c9 => absurd (nI_le (by omega) (by omega)) c9)
                refine lv_iload hx hb dL_law_660 (lv_at hl 2 rfl) ?_
                refine lv_bipush (v := nI 16) hx hb dL_law_662 (by decide +kernel) ?_
                by_cases cc8 : X % 32 < 16
                · refine lv_icmp_ge (tgt := 756) hx hb dL_law_664 (by decide) (fun c9 => absurd c9 (nI_ge cc8 (by decide))) (fun _ => ?_)
                  exact br_rep (Y := X / 32) (Z := X / 32 % 6) (Fn := X / 32 / 6 % 8) h0 hn (by omega) (by omega) (by omega) (by omega) (by omega) hQ hk hp hE hZ hP hD hS (lv_sub hl [5, 6, 7, 8, 9, 10, 11, 4, 3, 1, 0] rfl) kt
                · refine lv_icmp_ge (tgt := 756) hx hb dL_law_664 (by decide) (fun _ => ?_) (fun c9 => absurd (nI_le (by omega) (by omega)) c9)
                  refine lv_iload hx hb dL_law_756 (lv_at hl 2 rfl) ?_
                  refine lv_bipush (v := nI 27) hx hb dL_law_758 (by decide +kernel) ?_
                  by_cases cc9 : X % 32 < 27
                  · refine lv_icmp_ge (tgt := 802) hx hb dL_law_760 (by decide) (fun c9 => absurd c9 (nI_ge cc9 (by decide))) (fun _ => ?_)
                    exact br_min (Y := X / 32) (Z := X / 32 % 6) (Fn := X / 32 / 6 % 8) h0 hn (by omega) (by omega) (by omega) (by omega) (by omega) hQ hk hp hE hZ hP hD hS (lv_sub hl [5, 6, 7, 8, 9, 10, 11, 4, 3, 1, 0] rfl) kt
                  · refine lv_icmp_ge (tgt := 802) hx hb dL_law_760 (by decide) (fun _ => ?_) (fun c9 => absurd (nI_le (by omega) (by omega)) c9)
                    refine lv_iload hx hb dL_law_802 (lv_at hl 2 rfl) ?_
                    refine lv_bipush (v := nI 29) hx hb dL_law_804 (by decide +kernel) ?_
                    by_cases cc10 : X % 32 < 29
                    · refine lv_icmp_ge (tgt := 860) hx hb dL_law_806 (by decide) (fun c9 => absurd c9 (nI_ge cc10 (by decide))) (fun _ => ?_)
                      exact br_pass (Y := X / 32) (Z := X / 32 % 6) (Fn := X / 32 / 6 % 8) h0 hn (by omega) (by omega) (by omega) (by omega) (by omega) hQ hk hp hE hZ hP hD hS (lv_sub hl [5, 6, 7, 8, 9, 10, 11, 4, 3, 1, 0] rfl) kt
                    · refine lv_icmp_ge (tgt := 860) hx hb dL_law_806 (by decide) (fun _ => ?_) (fun c9 => absurd (nI_le (by omega) (by omega)) c9)
                      exact br_ask (Y := X / 32) (Z := X / 32 % 6) (Fn := X / 32 / 6 % 8) h0 hn (by omega) (by omega) (by omega) (by omega) (by omega) hQ hk hp hE hZ hP hD hS (lv_sub hl [5, 6, 7, 8, 9, 10, 11, 4, 3, 1, 0] rfl) kt

theorem law_end (h0 : LC p l s m #[Value.ref bs] c D cI cZ cO cJ bs L xs A) (hr : meth.sig.returnType = ret) (hlocks : meth.locks = false) (hA9 : ∀ q, A q → s.heap.size ≤ q) (hcl : cl ≤ 743239) (hsl : sl ≤ 6871752) : Hd p l e s m #[Value.ref bs] below meth c D cI cZ cO x a t b ap ae az bs A (lw_Z below #[Value.ref bs] s) 100 cl sl := by
  intro q ρ pf ef zf B hQ hk hp hE hZ H locs hP hD hS ls hl
  obtain ⟨hx, hb, hml, hts, hown, hK, hN, hX, hC, hA, hsc, hbl, hbA, hst, hL⟩ := id h0
  refine lv_iload hx hb dL_law_138 (lv_at hl 6 rfl) ?_
  refine lv_bipush (v := nI 100) hx hb dL_law_140 (by decide +kernel) ?_
  refine lv_icmp_ge (tgt := 973) hx hb dL_law_142 (by decide) (fun _ => ?_) (fun c9 => absurd (nI_le (Nat.le_refl 100) (by decide)) c9)
  refine lv_iload hx hb dL_law_973 (lv_at hl 5 rfl) ?_
  refine va_forget (fun q hq => hA9 _ (hS.2.2 q hq)) ?_
  refine W.widen (k := 743239) (n := 6871752) (by omega) (by omega) ?_
  exact lw_ret hx hb hr hlocks dL_law_975
theorem law_hd (h0 : LC p l s m #[Value.ref bs] c D cI cZ cO cJ bs L xs A) (hr : meth.sig.returnType = ret) (hlocks : meth.locks = false) (hA9 : ∀ q, A q → s.heap.size ≤ q) : ∀ (k n cl sl : Nat), n + k = 100 → cl + 49 * k + 200 ≤ 743239 → sl + 294 * k + 1200 ≤ 6871752 → Hd p l e s m #[Value.ref bs] below meth c D cI cZ cO x a t b ap ae az bs A (lw_Z below #[Value.ref bs] s) n cl sl
  | 0, n, cl, sl, h1, h2, h3 => by
    have e : n = 100 := by omega
    subst e
    exact law_end h0 hr hlocks hA9 (by omega) (by omega)
  | k + 1, n, cl, sl, h1, h2, h3 => law_step h0 (by omega) (by omega) (by omega) (law_hd h0 hr hlocks hA9 k (n + 1) (cl + 49) (sl + 294) (by omega) (by omega) (by omega))
end LB
