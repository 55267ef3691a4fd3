section LB
variable {p : Program} {l : Launch} {e : Env} {s : State} {m : MethodId} {args : Array Value} {below : List Frame} {meth : Method} {c : Code} {Q : State → Prop} {D : va_G} {cI cZ cO cJ : ClassId} {x a t b y : Nat → Nat} {o bs L : Nat} {xs : Nat → Int32} {A : Nat → Prop} {i cl sl : Nat}
variable {σ ρ : HS} {μ : MS} {ck : Nat} {Ho Hm Lo Se Em : Nat → Int32} {Ef : Nat → Nat → Int32} {gp gi am li : Int32} {dl : Nat} {g : Nat → Int64} {th : Int32} {H : Heap} {locs : List Loc} {ls : Array Slot}
theorem lc_setLoad (h0 : LC p l s m args c D cI cZ cO cJ bs L xs A) (hi : i + 4 ≤ L) (hcl : cl + 1 ≤ 653765) (hsl : sl + 6 ≤ 7134809) (hI : LI σ μ ck Ho Hm Lo Se Em Ef gp gi am dl) (hP : va_P D vwCl (wL cI cZ cO cJ x a t b y o σ ρ μ ck Ho Hm Lo Se Em Ef gp gi am li dl g th) H) (hD : va_D A (wL cI cZ cO cJ x a t b y o σ ρ μ ck Ho Hm Lo Se Em Ef gp gi am li dl g th)) (hS : va_S A s.heap H locs) (hl : lv_has ls 7 [(0, .ref bs), (1, .ref (x 0)), (2, .ref (y 0)), (3, .ref o), (4, .int (nI i))]) (kk : Hd p l e s m args below meth c D cI cZ cO cJ x a t b y o bs A Q (i + 4) (cl + 1) (sl + 6)) : W p l e room_1 s m args below meth c H locs cl sl Q (F0 m 132 ls []) := by
  by_cases c1 : inR (xs (i + 1)) (nI 0) (nI 5) ∧ inR (xs (i + 2)) (nI 0) (nI 200)
  · obtain ⟨z, e_z, l_z, h_z⟩ := inR_N c1.1 (by decide) (by decide)
    exact lb_setLoad_ok z _ e_z rfl (by omega) c1.2 h0 hi hcl hsl hI hP hD hS hl kk
  · exact lb_setLoad_bad c1 h0 hi hcl hsl hI hP hD hS hl kk

theorem lc_setSetpoint (h0 : LC p l s m args c D cI cZ cO cJ bs L xs A) (hi : i + 4 ≤ L) (hcl : cl + 1 ≤ 653765) (hsl : sl + 6 ≤ 7134809) (hI : LI σ μ ck Ho Hm Lo Se Em Ef gp gi am dl) (hP : va_P D vwCl (wL cI cZ cO cJ x a t b y o σ ρ μ ck Ho Hm Lo Se Em Ef gp gi am li dl g th) H) (hD : va_D A (wL cI cZ cO cJ x a t b y o σ ρ μ ck Ho Hm Lo Se Em Ef gp gi am li dl g th)) (hS : va_S A s.heap H locs) (hl : lv_has ls 7 [(0, .ref bs), (1, .ref (x 0)), (2, .ref (y 0)), (3, .ref o), (4, .int (nI i))]) (kk : Hd p l e s m args below meth c D cI cZ cO cJ x a t b y o bs A Q (i + 4) (cl + 1) (sl + 6)) : W p l e room_1 s m args below meth c H locs cl sl Q (F0 m 200 ls []) := by
  by_cases c1 : inR (xs (i + 1)) (nI 0) (nI 5) ∧ inR (xs (i + 2)) (nI 1500) (nI 3500)
  · obtain ⟨z, e_z, l_z, h_z⟩ := inR_N c1.1 (by decide) (by decide)
    exact lb_setSetpoint_ok z _ e_z rfl (by omega) c1.2 h0 hi hcl hsl hI hP hD hS hl kk
  · exact lb_setSetpoint_bad c1 h0 hi hcl hsl hI hP hD hS hl kk

theorem lc_setEffect (h0 : LC p l s m args c D cI cZ cO cJ bs L xs A) (hi : i + 4 ≤ L) (hcl : cl + 1 ≤ 653765) (hsl : sl + 6 ≤ 7134809) (hI : LI σ μ ck Ho Hm Lo Se Em Ef gp gi am dl) (hP : va_P D vwCl (wL cI cZ cO cJ x a t b y o σ ρ μ ck Ho Hm Lo Se Em Ef gp gi am li dl g th) H) (hD : va_D A (wL cI cZ cO cJ x a t b y o σ ρ μ ck Ho Hm Lo Se Em Ef gp gi am li dl g th)) (hS : va_S A s.heap H locs) (hl : lv_has ls 7 [(0, .ref bs), (1, .ref (x 0)), (2, .ref (y 0)), (3, .ref o), (4, .int (nI i))]) (kk : Hd p l e s m args below meth c D cI cZ cO cJ x a t b y o bs A Q (i + 4) (cl + 1) (sl + 6)) : W p l e room_1 s m args below meth c H locs cl sl Q (F0 m 268 ls []) := by
  by_cases c1 : inR (xs (i + 1)) (nI 0) (nI 7) ∧ inR (xs (i + 2)) (nI 0) (nI 5) ∧ inR (xs (i + 3)) (nI 0) (nI 100)
  · obtain ⟨f, e_f, l_f, h_f⟩ := inR_N c1.1 (by decide) (by decide)
    obtain ⟨z, e_z, l_z, h_z⟩ := inR_N c1.2.1 (by decide) (by decide)
    exact lb_setEffect_ok f z _ e_f e_z rfl (by omega) (by omega) c1.2.2 h0 hi hcl hsl hI hP hD hS hl kk
  · exact lb_setEffect_bad c1 h0 hi hcl hsl hI hP hD hS hl kk

theorem lc_setGains (h0 : LC p l s m args c D cI cZ cO cJ bs L xs A) (hi : i + 4 ≤ L) (hcl : cl + 1 ≤ 653765) (hsl : sl + 6 ≤ 7134809) (hI : LI σ μ ck Ho Hm Lo Se Em Ef gp gi am dl) (hP : va_P D vwCl (wL cI cZ cO cJ x a t b y o σ ρ μ ck Ho Hm Lo Se Em Ef gp gi am li dl g th) H) (hD : va_D A (wL cI cZ cO cJ x a t b y o σ ρ μ ck Ho Hm Lo Se Em Ef gp gi am li dl g th)) (hS : va_S A s.heap H locs) (hl : lv_has ls 7 [(0, .ref bs), (1, .ref (x 0)), (2, .ref (y 0)), (3, .ref o), (4, .int (nI i))]) (kk : Hd p l e s m args below meth c D cI cZ cO cJ x a t b y o bs A Q (i + 4) (cl + 1) (sl + 6)) : W p l e room_1 s m args below meth c H locs cl sl Q (F0 m 348 ls []) := by
  by_cases c1 : inR (xs (i + 1)) (nI 0) (nI 200) ∧ inR (xs (i + 2)) (nI 0) (nI 200)
  · exact lb_setGains_ok _ _ rfl rfl c1.1 c1.2 h0 hi hcl hsl hI hP hD hS hl kk
  · exact lb_setGains_bad c1 h0 hi hcl hsl hI hP hD hS hl kk

theorem lc_setHall (h0 : LC p l s m args c D cI cZ cO cJ bs L xs A) (hi : i + 4 ≤ L) (hcl : cl + 1 ≤ 653765) (hsl : sl + 6 ≤ 7134809) (hI : LI σ μ ck Ho Hm Lo Se Em Ef gp gi am dl) (hP : va_P D vwCl (wL cI cZ cO cJ x a t b y o σ ρ μ ck Ho Hm Lo Se Em Ef gp gi am li dl g th) H) (hD : va_D A (wL cI cZ cO cJ x a t b y o σ ρ μ ck Ho Hm Lo Se Em Ef gp gi am li dl g th)) (hS : va_S A s.heap H locs) (hl : lv_has ls 7 [(0, .ref bs), (1, .ref (x 0)), (2, .ref (y 0)), (3, .ref o), (4, .int (nI i))]) (kk : Hd p l e s m args below meth c D cI cZ cO cJ x a t b y o bs A Q (i + 4) (cl + 1) (sl + 6)) : W p l e room_1 s m args below meth c H locs cl sl Q (F0 m 396 ls []) := by
  by_cases c1 : inR (xs (i + 1)) (nI 1000) (nI 5000) ∧ inR (xs (i + 2)) (nI 1000) (nI 5000)
  · exact lb_setHall_ok _ _ rfl rfl c1.1 c1.2 h0 hi hcl hsl hI hP hD hS hl kk
  · exact lb_setHall_bad c1 h0 hi hcl hsl hI hP hD hS hl kk

theorem lc_setDelay (h0 : LC p l s m args c D cI cZ cO cJ bs L xs A) (hi : i + 4 ≤ L) (hcl : cl + 1 ≤ 653765) (hsl : sl + 6 ≤ 7134809) (hI : LI σ μ ck Ho Hm Lo Se Em Ef gp gi am dl) (hP : va_P D vwCl (wL cI cZ cO cJ x a t b y o σ ρ μ ck Ho Hm Lo Se Em Ef gp gi am li dl g th) H) (hD : va_D A (wL cI cZ cO cJ x a t b y o σ ρ μ ck Ho Hm Lo Se Em Ef gp gi am li dl g th)) (hS : va_S A s.heap H locs) (hl : lv_has ls 7 [(0, .ref bs), (1, .ref (x 0)), (2, .ref (y 0)), (3, .ref o), (4, .int (nI i))]) (kk : Hd p l e s m args below meth c D cI cZ cO cJ x a t b y o bs A Q (i + 4) (cl + 1) (sl + 6)) : W p l e room_1 s m args below meth c H locs cl sl Q (F0 m 444 ls []) := by
  by_cases c1 : inR (xs (i + 1)) (nI 0) (nI 8)
  · obtain ⟨d, e_d, l_d, h_d⟩ := inR_N c1 (by decide) (by decide)
    exact lb_setDelay_ok d e_d (by omega) h0 hi hcl hsl hI hP hD hS hl kk
  · exact lb_setDelay_bad c1 h0 hi hcl hsl hI hP hD hS hl kk

theorem lc_fail (h0 : LC p l s m args c D cI cZ cO cJ bs L xs A) (hi : i + 4 ≤ L) (hcl : cl + 1 ≤ 653765) (hsl : sl + 6 ≤ 7134809) (hI : LI σ μ ck Ho Hm Lo Se Em Ef gp gi am dl) (hP : va_P D vwCl (wL cI cZ cO cJ x a t b y o σ ρ μ ck Ho Hm Lo Se Em Ef gp gi am li dl g th) H) (hD : va_D A (wL cI cZ cO cJ x a t b y o σ ρ μ ck Ho Hm Lo Se Em Ef gp gi am li dl g th)) (hS : va_S A s.heap H locs) (hl : lv_has ls 7 [(0, .ref bs), (1, .ref (x 0)), (2, .ref (y 0)), (3, .ref o), (4, .int (nI i))]) (kk : Hd p l e s m args below meth c D cI cZ cO cJ x a t b y o bs A Q (i + 4) (cl + 1) (sl + 6)) : W p l e room_1 s m args below meth c H locs cl sl Q (F0 m 500 ls []) := by
  by_cases c1 : inR (xs (i + 1)) (nI 0) (nI 7)
  · obtain ⟨f, e_f, l_f, h_f⟩ := inR_N c1 (by decide) (by decide)
    by_cases hF : sF σ f = 0
    · exact lb_fail_ok f e_f (by omega) hF h0 hi hcl hsl hI hP hD hS hl kk
    · exact lb_fail_two f e_f (by omega) hF h0 hi hcl hsl hI hP hD hS hl kk
  · exact lb_fail_bad c1 h0 hi hcl hsl hI hP hD hS hl kk

theorem lc_repair (h0 : LC p l s m args c D cI cZ cO cJ bs L xs A) (hi : i + 4 ≤ L) (hcl : cl + 1 ≤ 653765) (hsl : sl + 6 ≤ 7134809) (hI : LI σ μ ck Ho Hm Lo Se Em Ef gp gi am dl) (hP : va_P D vwCl (wL cI cZ cO cJ x a t b y o σ ρ μ ck Ho Hm Lo Se Em Ef gp gi am li dl g th) H) (hD : va_D A (wL cI cZ cO cJ x a t b y o σ ρ μ ck Ho Hm Lo Se Em Ef gp gi am li dl g th)) (hS : va_S A s.heap H locs) (hl : lv_has ls 7 [(0, .ref bs), (1, .ref (x 0)), (2, .ref (y 0)), (3, .ref o), (4, .int (nI i))]) (kk : Hd p l e s m args below meth c D cI cZ cO cJ x a t b y o bs A Q (i + 4) (cl + 1) (sl + 6)) : W p l e room_1 s m args below meth c H locs cl sl Q (F0 m 556 ls []) := by
  by_cases c1 : inR (xs (i + 1)) (nI 0) (nI 7)
  · obtain ⟨f, e_f, l_f, h_f⟩ := inR_N c1 (by decide) (by decide)
    by_cases hF : sF σ f = 0
    · exact lb_repair_two f e_f (by omega) hF h0 hi hcl hsl hI hP hD hS hl kk
    · exact lb_repair_ok f e_f (by omega) hF h0 hi hcl hsl hI hP hD hS hl kk
  · exact lb_repair_bad c1 h0 hi hcl hsl hI hP hD hS hl kk

theorem lc_command (h0 : LC p l s m args c D cI cZ cO cJ bs L xs A) (hi : i + 4 ≤ L) (hcl : cl + 1 ≤ 653765) (hsl : sl + 6 ≤ 7134809) (hI : LI σ μ ck Ho Hm Lo Se Em Ef gp gi am dl) (hP : va_P D vwCl (wL cI cZ cO cJ x a t b y o σ ρ μ ck Ho Hm Lo Se Em Ef gp gi am li dl g th) H) (hD : va_D A (wL cI cZ cO cJ x a t b y o σ ρ μ ck Ho Hm Lo Se Em Ef gp gi am li dl g th)) (hS : va_S A s.heap H locs) (hl : lv_has ls 7 [(0, .ref bs), (1, .ref (x 0)), (2, .ref (y 0)), (3, .ref o), (4, .int (nI i))]) (kk : Hd p l e s m args below meth c D cI cZ cO cJ x a t b y o bs A Q (i + 4) (cl + 1) (sl + 6)) : W p l e room_1 s m args below meth c H locs cl sl Q (F0 m 612 ls []) := by
  by_cases c1 : inR (xs (i + 1)) (nI 0) (nI 7)
  · obtain ⟨f, e_f, l_f, h_f⟩ := inR_N c1 (by decide) (by decide)
    rcases Nat.eq_zero_or_pos (rK μ 0) with q | q
    · exact lb_command_ok0 f e_f (by omega) q h0 hi hcl hsl hI hP hD hS hl kk
    · exact lb_command_ok f e_f (by omega) q h0 hi hcl hsl hI hP hD hS hl kk
  · exact lb_command_bad c1 h0 hi hcl hsl hI hP hD hS hl kk

theorem lc_speed (h0 : LC p l s m args c D cI cZ cO cJ bs L xs A) (hi : i + 4 ≤ L) (hcl : cl + 1 ≤ 653765) (hsl : sl + 6 ≤ 7134809) (hI : LI σ μ ck Ho Hm Lo Se Em Ef gp gi am dl) (hP : va_P D vwCl (wL cI cZ cO cJ x a t b y o σ ρ μ ck Ho Hm Lo Se Em Ef gp gi am li dl g th) H) (hD : va_D A (wL cI cZ cO cJ x a t b y o σ ρ μ ck Ho Hm Lo Se Em Ef gp gi am li dl g th)) (hS : va_S A s.heap H locs) (hl : lv_has ls 7 [(0, .ref bs), (1, .ref (x 0)), (2, .ref (y 0)), (3, .ref o), (4, .int (nI i))]) (kk : Hd p l e s m args below meth c D cI cZ cO cJ x a t b y o bs A Q (i + 4) (cl + 1) (sl + 6)) : W p l e room_1 s m args below meth c H locs cl sl Q (F0 m 668 ls []) := by
  by_cases c1 : inR (xs (i + 1)) (nI 0) (nI 7)
  · obtain ⟨f, e_f, l_f, h_f⟩ := inR_N c1 (by decide) (by decide)
    exact lb_speed_ok f e_f (by omega) h0 hi hcl hsl hI hP hD hS hl kk
  · exact lb_speed_bad c1 h0 hi hcl hsl hI hP hD hS hl kk

theorem lc_temperature (h0 : LC p l s m args c D cI cZ cO cJ bs L xs A) (hi : i + 4 ≤ L) (hcl : cl + 1 ≤ 653765) (hsl : sl + 6 ≤ 7134809) (hI : LI σ μ ck Ho Hm Lo Se Em Ef gp gi am dl) (hP : va_P D vwCl (wL cI cZ cO cJ x a t b y o σ ρ μ ck Ho Hm Lo Se Em Ef gp gi am li dl g th) H) (hD : va_D A (wL cI cZ cO cJ x a t b y o σ ρ μ ck Ho Hm Lo Se Em Ef gp gi am li dl g th)) (hS : va_S A s.heap H locs) (hl : lv_has ls 7 [(0, .ref bs), (1, .ref (x 0)), (2, .ref (y 0)), (3, .ref o), (4, .int (nI i))]) (kk : Hd p l e s m args below meth c D cI cZ cO cJ x a t b y o bs A Q (i + 4) (cl + 1) (sl + 6)) : W p l e room_1 s m args below meth c H locs cl sl Q (F0 m 793 ls []) := by
  by_cases c1 : inR (xs (i + 1)) (nI 0) (nI 5)
  · obtain ⟨z, e_z, l_z, h_z⟩ := inR_N c1 (by decide) (by decide)
    exact lb_temperature_ok z e_z (by omega) h0 hi hcl hsl hI hP hD hS hl kk
  · exact lb_temperature_bad c1 h0 hi hcl hsl hI hP hD hS hl kk

theorem lc_demand (h0 : LC p l s m args c D cI cZ cO cJ bs L xs A) (hi : i + 4 ≤ L) (hcl : cl + 1 ≤ 653765) (hsl : sl + 6 ≤ 7134809) (hI : LI σ μ ck Ho Hm Lo Se Em Ef gp gi am dl) (hP : va_P D vwCl (wL cI cZ cO cJ x a t b y o σ ρ μ ck Ho Hm Lo Se Em Ef gp gi am li dl g th) H) (hD : va_D A (wL cI cZ cO cJ x a t b y o σ ρ μ ck Ho Hm Lo Se Em Ef gp gi am li dl g th)) (hS : va_S A s.heap H locs) (hl : lv_has ls 7 [(0, .ref bs), (1, .ref (x 0)), (2, .ref (y 0)), (3, .ref o), (4, .int (nI i))]) (kk : Hd p l e s m args below meth c D cI cZ cO cJ x a t b y o bs A Q (i + 4) (cl + 1) (sl + 6)) : W p l e room_1 s m args below meth c H locs cl sl Q (F0 m 849 ls []) := by
  by_cases c1 : inR (xs (i + 1)) (nI 0) (nI 5)
  · obtain ⟨z, e_z, l_z, h_z⟩ := inR_N c1 (by decide) (by decide)
    exact lb_demand_ok z e_z (by omega) h0 hi hcl hsl hI hP hD hS hl kk
  · exact lb_demand_bad c1 h0 hi hcl hsl hI hP hD hS hl kk

theorem lc_errors (h0 : LC p l s m args c D cI cZ cO cJ bs L xs A) (hi : i + 4 ≤ L) (hcl : cl + 1 ≤ 653765) (hsl : sl + 6 ≤ 7134809) (hI : LI σ μ ck Ho Hm Lo Se Em Ef gp gi am dl) (hP : va_P D vwCl (wL cI cZ cO cJ x a t b y o σ ρ μ ck Ho Hm Lo Se Em Ef gp gi am li dl g th) H) (hD : va_D A (wL cI cZ cO cJ x a t b y o σ ρ μ ck Ho Hm Lo Se Em Ef gp gi am li dl g th)) (hS : va_S A s.heap H locs) (hl : lv_has ls 7 [(0, .ref bs), (1, .ref (x 0)), (2, .ref (y 0)), (3, .ref o), (4, .int (nI i))]) (kk : Hd p l e s m args below meth c D cI cZ cO cJ x a t b y o bs A Q (i + 4) (cl + 1) (sl + 6)) : W p l e room_1 s m args below meth c H locs cl sl Q (F0 m 905 ls []) := by
  by_cases c1 : inR (xs (i + 1)) (nI 0) (nI 5)
  · obtain ⟨z, e_z, l_z, h_z⟩ := inR_N c1 (by decide) (by decide)
    exact lb_errors_ok z e_z (by omega) h0 hi hcl hsl hI hP hD hS hl kk
  · exact lb_errors_bad c1 h0 hi hcl hsl hI hP hD hS hl kk

theorem lc_hotMinutes (h0 : LC p l s m args c D cI cZ cO cJ bs L xs A) (hi : i + 4 ≤ L) (hcl : cl + 1 ≤ 653765) (hsl : sl + 6 ≤ 7134809) (hI : LI σ μ ck Ho Hm Lo Se Em Ef gp gi am dl) (hP : va_P D vwCl (wL cI cZ cO cJ x a t b y o σ ρ μ ck Ho Hm Lo Se Em Ef gp gi am li dl g th) H) (hD : va_D A (wL cI cZ cO cJ x a t b y o σ ρ μ ck Ho Hm Lo Se Em Ef gp gi am li dl g th)) (hS : va_S A s.heap H locs) (hl : lv_has ls 7 [(0, .ref bs), (1, .ref (x 0)), (2, .ref (y 0)), (3, .ref o), (4, .int (nI i))]) (kk : Hd p l e s m args below meth c D cI cZ cO cJ x a t b y o bs A Q (i + 4) (cl + 1) (sl + 6)) : W p l e room_1 s m args below meth c H locs cl sl Q (F0 m 961 ls []) := by
  by_cases c1 : inR (xs (i + 1)) (nI 0) (nI 5)
  · obtain ⟨z, e_z, l_z, h_z⟩ := inR_N c1 (by decide) (by decide)
    exact lb_hotMinutes_ok z e_z (by omega) h0 hi hcl hsl hI hP hD hS hl kk
  · exact lb_hotMinutes_bad c1 h0 hi hcl hsl hI hP hD hS hl kk

theorem lc_pass (h0 : LC p l s m args c D cI cZ cO cJ bs L xs A) (hi : i + 4 ≤ L) (hcl : cl + 1 ≤ 653765) (hsl : sl + 6 ≤ 7134809) (hI : LI σ μ ck Ho Hm Lo Se Em Ef gp gi am dl) (hP : va_P D vwCl (wL cI cZ cO cJ x a t b y o σ ρ μ ck Ho Hm Lo Se Em Ef gp gi am li dl g th) H) (hD : va_D A (wL cI cZ cO cJ x a t b y o σ ρ μ ck Ho Hm Lo Se Em Ef gp gi am li dl g th)) (hS : va_S A s.heap H locs) (hl : lv_has ls 7 [(0, .ref bs), (1, .ref (x 0)), (2, .ref (y 0)), (3, .ref o), (4, .int (nI i))]) (kk : Hd p l e s m args below meth c D cI cZ cO cJ x a t b y o bs A Q (i + 4) (cl + 1) (sl + 6)) : W p l e room_1 s m args below meth c H locs cl sl Q (F0 m 724 ls []) := by
  by_cases c1 : inR (xs (i + 1)) (nI 1) (nI 300)
  · obtain ⟨n, e_n, l_n, h_n⟩ := inR_N c1 (by decide) (by decide)
    by_cases h3 : ck + n ≤ 100000
    · exact lb_pass_ok n e_n (by omega) (by omega) h3 h0 hi hcl hsl hI hP hD hS hl kk
    · exact lb_pass_two n e_n (by omega) (by omega) (by omega) h0 hi hcl hsl hI hP hD hS hl kk
  · exact lb_pass_bad c1 h0 hi hcl hsl hI hP hD hS hl kk

theorem lc_expected (h0 : LC p l s m args c D cI cZ cO cJ bs L xs A) (hi : i + 4 ≤ L) (hcl : cl + 1 ≤ 653765) (hsl : sl + 6 ≤ 7134809) (hI : LI σ μ ck Ho Hm Lo Se Em Ef gp gi am dl) (hP : va_P D vwCl (wL cI cZ cO cJ x a t b y o σ ρ μ ck Ho Hm Lo Se Em Ef gp gi am li dl g th) H) (hD : va_D A (wL cI cZ cO cJ x a t b y o σ ρ μ ck Ho Hm Lo Se Em Ef gp gi am li dl g th)) (hS : va_S A s.heap H locs) (hl : lv_has ls 7 [(0, .ref bs), (1, .ref (x 0)), (2, .ref (y 0)), (3, .ref o), (4, .int (nI i))]) (kk : Hd p l e s m args below meth c D cI cZ cO cJ x a t b y o bs A Q (i + 4) (cl + 1) (sl + 6)) : W p l e room_1 s m args below meth c H locs cl sl Q (F0 m 1030 ls []) := by
  by_cases c1 : inR (xs (i + 1)) (nI 0) (nI 5) ∧ inR (xs (i + 2)) (nI 1) (nI 60)
  · obtain ⟨z, e_z, l_z, h_z⟩ := inR_N c1.1 (by decide) (by decide)
    obtain ⟨k, e_k, l_k, h_k⟩ := inR_N c1.2 (by decide) (by decide)
    exact lb_expected_ok z (k - 1) e_z (by rw [e_k]; congr 1; omega) (by omega) (by omega) h0 hi hcl hsl hI hP hD hS hl kk
  · exact lb_expected_bad c1 h0 hi hcl hsl hI hP hD hS hl kk

theorem lc_critical (h0 : LC p l s m args c D cI cZ cO cJ bs L xs A) (hi : i + 4 ≤ L) (hcl : cl + 1 ≤ 653765) (hsl : sl + 6 ≤ 7134809) (hI : LI σ μ ck Ho Hm Lo Se Em Ef gp gi am dl) (hP : va_P D vwCl (wL cI cZ cO cJ x a t b y o σ ρ μ ck Ho Hm Lo Se Em Ef gp gi am li dl g th) H) (hD : va_D A (wL cI cZ cO cJ x a t b y o σ ρ μ ck Ho Hm Lo Se Em Ef gp gi am li dl g th)) (hS : va_S A s.heap H locs) (hl : lv_has ls 7 [(0, .ref bs), (1, .ref (x 0)), (2, .ref (y 0)), (3, .ref o), (4, .int (nI i))]) (kk : Hd p l e s m args below meth c D cI cZ cO cJ x a t b y o bs A Q (i + 4) (cl + 1) (sl + 6)) : W p l e room_1 s m args below meth c H locs cl sl Q (F0 m 1098 ls []) := by
  by_cases c1 : inR (xs (i + 1)) (nI 0) (nI 5) ∧ inR (xs (i + 2)) (nI 1) (nI 60)
  · obtain ⟨z, e_z, l_z, h_z⟩ := inR_N c1.1 (by decide) (by decide)
    obtain ⟨k, e_k, l_k, h_k⟩ := inR_N c1.2 (by decide) (by decide)
    exact lb_critical_ok z (k - 1) e_z (by rw [e_k]; congr 1; omega) (by omega) (by omega) h0 hi hcl hsl hI hP hD hS hl kk
  · exact lb_critical_bad c1 h0 hi hcl hsl hI hP hD hS hl kk

theorem lc_margin (h0 : LC p l s m args c D cI cZ cO cJ bs L xs A) (hi : i + 4 ≤ L) (hcl : cl + 1 ≤ 653765) (hsl : sl + 6 ≤ 7134809) (hI : LI σ μ ck Ho Hm Lo Se Em Ef gp gi am dl) (hP : va_P D vwCl (wL cI cZ cO cJ x a t b y o σ ρ μ ck Ho Hm Lo Se Em Ef gp gi am li dl g th) H) (hD : va_D A (wL cI cZ cO cJ x a t b y o σ ρ μ ck Ho Hm Lo Se Em Ef gp gi am li dl g th)) (hS : va_S A s.heap H locs) (hl : lv_has ls 7 [(0, .ref bs), (1, .ref (x 0)), (2, .ref (y 0)), (3, .ref o), (4, .int (nI i))]) (kk : Hd p l e s m args below meth c D cI cZ cO cJ x a t b y o bs A Q (i + 4) (cl + 1) (sl + 6)) : W p l e room_1 s m args below meth c H locs cl sl Q (F0 m 1166 ls []) := by
  by_cases c1 : inR (xs (i + 1)) (nI 0) (nI 5) ∧ inR (xs (i + 2)) (nI 1) (nI 60)
  · obtain ⟨z, e_z, l_z, h_z⟩ := inR_N c1.1 (by decide) (by decide)
    obtain ⟨k, e_k, l_k, h_k⟩ := inR_N c1.2 (by decide) (by decide)
    exact lb_margin_ok z (k - 1) e_z (by rw [e_k]; congr 1; omega) (by omega) (by omega) h0 hi hcl hsl hI hP hD hS hl kk
  · exact lb_margin_bad c1 h0 hi hcl hsl hI hP hD hS hl kk

theorem lc_clock (h0 : LC p l s m args c D cI cZ cO cJ bs L xs A) (hi : i + 4 ≤ L) (hcl : cl + 1 ≤ 653765) (hsl : sl + 6 ≤ 7134809) (hI : LI σ μ ck Ho Hm Lo Se Em Ef gp gi am dl) (hP : va_P D vwCl (wL cI cZ cO cJ x a t b y o σ ρ μ ck Ho Hm Lo Se Em Ef gp gi am li dl g th) H) (hD : va_D A (wL cI cZ cO cJ x a t b y o σ ρ μ ck Ho Hm Lo Se Em Ef gp gi am li dl g th)) (hS : va_S A s.heap H locs) (hl : lv_has ls 7 [(0, .ref bs), (1, .ref (x 0)), (2, .ref (y 0)), (3, .ref o), (4, .int (nI i))]) (kk : Hd p l e s m args below meth c D cI cZ cO cJ x a t b y o bs A Q (i + 4) (cl + 1) (sl + 6)) : W p l e room_1 s m args below meth c H locs cl sl Q (F0 m 780 ls []) := by
  exact lb_clock h0 hi hcl hsl hI hP hD hS hl kk

theorem lc_hottest (h0 : LC p l s m args c D cI cZ cO cJ bs L xs A) (hi : i + 4 ≤ L) (hcl : cl + 1 ≤ 653765) (hsl : sl + 6 ≤ 7134809) (hI : LI σ μ ck Ho Hm Lo Se Em Ef gp gi am dl) (hP : va_P D vwCl (wL cI cZ cO cJ x a t b y o σ ρ μ ck Ho Hm Lo Se Em Ef gp gi am li dl g th) H) (hD : va_D A (wL cI cZ cO cJ x a t b y o σ ρ μ ck Ho Hm Lo Se Em Ef gp gi am li dl g th)) (hS : va_S A s.heap H locs) (hl : lv_has ls 7 [(0, .ref bs), (1, .ref (x 0)), (2, .ref (y 0)), (3, .ref o), (4, .int (nI i))]) (kk : Hd p l e s m args below meth c D cI cZ cO cJ x a t b y o bs A Q (i + 4) (cl + 1) (sl + 6)) : W p l e room_1 s m args below meth c H locs cl sl Q (F0 m 1017 ls []) := by
  exact lb_hottest h0 hi hcl hsl hI hP hD hS hl kk

theorem law_cmp {L i : Nat} (hL : L ≤ 2048) (hi : i ≤ 2048) : (Int32.ofNat L - nI 4) < nI i ↔ ¬ i + 4 ≤ L := by
  have h1 : (Int32.ofNat L).toInt = (L : Int) := toI L (by omega)
  have h2 : (nI 4).toInt = (4 : Int) := toI 4 (by decide)
  have e : (Int32.ofNat L - nI 4).toInt = (L : Int) - 4 := by
    rw [fb_subI (by rw [h1, h2]; omega) (by rw [h1, h2]; omega), h1, h2]
  rw [Int32.lt_iff_toInt_lt, e, toI i (by omega)]
  omega

set_option maxHeartbeats 4000000 in
set_option maxRecDepth 100000 in
theorem law_step (h0 : LC p l s m #[Value.ref bs] c D cI cZ cO cJ bs L xs A) (hr : meth.sig.returnType = ret) (hlocks : meth.locks = false) (hA9 : ∀ q, A q → s.heap.size ≤ q) (hi0 : i ≤ 2048) (hcl : cl + 1 ≤ 653765) (hsl : sl + 6 ≤ 7134809) (kk : i + 4 ≤ L → Hd p l e s m #[Value.ref bs] below meth c D cI cZ cO cJ x a t b y o bs A (lw_Z below #[Value.ref bs] s) (i + 4) (cl + 1) (sl + 6)) : Hd p l e s m #[Value.ref bs] below meth c D cI cZ cO cJ x a t b y o bs A (lw_Z below #[Value.ref bs] s) i cl sl := by
  intro σ ρ μ ck Ho Hm Lo Se Em Ef gp gi am li dl g th hI H locs hP hD hS ls hl
  have h9 := h0
  obtain ⟨hx, hb, hml, hts, hown, hK, hN, hX, hC, hA, hsc, hbl, hbA, hst, hL⟩ := h9
  refine lv_iload hx hb dL_law_23 (lv_at hl 4 rfl) ?_
  refine lv_aload_n hx hb dL_law_25 rfl (lv_at hl 0 rfl) ?_
  refine va_slen hx hb hsc hbl hbA hS dL_law_26 ?_
  refine lv_iconst (v := nI 4) hx hb dL_law_27 (by decide +kernel) ?_
  refine lv_isub hx hb dL_law_28 ?_
  refine lv_icmp_gt (tgt := 1240) hx hb dL_law_29 (by decide) (fun c9 => ?_) (fun c9 => ?_)
  · refine lv_iconst (v := 1) hx hb dL_law_1240 (by decide) ?_
    refine va_forget (fun q hq => hA9 _ (hS.2.2 q hq)) ?_
    refine W.widen (k := 653765) (n := 7134809) (by omega) (by omega) ?_
    exact lw_ret hx hb hr hlocks dL_law_1241
  · have hi : i + 4 ≤ L := Classical.byContradiction fun q => c9 ((law_cmp hL hi0).mpr q)
    have kk := kk hi
    refine lv_aload_n hx hb dL_law_32 rfl (lv_at hl 0 rfl) ?_
    refine lv_iload hx hb dL_law_33 (lv_at hl 4 rfl) ?_
    refine k_sld hx hb hsc hbl hbA hS (v := xs i) (by omega) hL rfl dL_law_35 ?_
    refine lv_bipush (v := nI 31) hx hb dL_law_36 (by decide +kernel) ?_
    refine lv_iand hx hb dL_law_38 ?_
    obtain ⟨j, hj, ej⟩ := pk_andE (xs i) (m := nI 31) 5 (by decide)
    refine k_as ej ?_
    rcases (show j = 0 ∨ j = 1 ∨ j = 2 ∨ j = 3 ∨ j = 4 ∨ j = 5 ∨ j = 6 ∨ j = 7 ∨ j = 8 ∨ j = 9 ∨ j = 10 ∨ j = 11 ∨ j = 12 ∨ j = 13 ∨ j = 14 ∨ j = 15 ∨ j = 16 ∨ j = 17 ∨ j = 18 ∨ j = 19 ∨ 20 ≤ j by omega) with rfl | rfl | rfl | rfl | rfl | rfl | rfl | rfl | rfl | rfl | rfl | rfl | rfl | rfl | rfl | rfl | rfl | rfl | rfl | rfl | h20
    · refine lv_tableIn (tgt := 132) (off := 93) hx hb dL_law_39 (by decide) (by decide) rfl (by decide) ?_
      exact lc_setLoad h0 hi hcl hsl hI hP hD hS hl kk
    · refine lv_tableIn (tgt := 200) (off := 161) hx hb dL_law_39 (by decide) (by decide) rfl (by decide) ?_
      exact lc_setSetpoint h0 hi hcl hsl hI hP hD hS hl kk
    · refine lv_tableIn (tgt := 268) (off := 229) hx hb dL_law_39 (by decide) (by decide) rfl (by decide) ?_
      exact lc_setEffect h0 hi hcl hsl hI hP hD hS hl kk
    · refine lv_tableIn (tgt := 348) (off := 309) hx hb dL_law_39 (by decide) (by decide) rfl (by decide) ?_
      exact lc_setGains h0 hi hcl hsl hI hP hD hS hl kk
    · refine lv_tableIn (tgt := 396) (off := 357) hx hb dL_law_39 (by decide) (by decide) rfl (by decide) ?_
      exact lc_setHall h0 hi hcl hsl hI hP hD hS hl kk
    · refine lv_tableIn (tgt := 444) (off := 405) hx hb dL_law_39 (by decide) (by decide) rfl (by decide) ?_
      exact lc_setDelay h0 hi hcl hsl hI hP hD hS hl kk
    · refine lv_tableIn (tgt := 500) (off := 461) hx hb dL_law_39 (by decide) (by decide) rfl (by decide) ?_
      exact lc_fail h0 hi hcl hsl hI hP hD hS hl kk
    · refine lv_tableIn (tgt := 556) (off := 517) hx hb dL_law_39 (by decide) (by decide) rfl (by decide) ?_
      exact lc_repair h0 hi hcl hsl hI hP hD hS hl kk
    · refine lv_tableIn (tgt := 612) (off := 573) hx hb dL_law_39 (by decide) (by decide) rfl (by decide) ?_
      exact lc_command h0 hi hcl hsl hI hP hD hS hl kk
    · refine lv_tableIn (tgt := 668) (off := 629) hx hb dL_law_39 (by decide) (by decide) rfl (by decide) ?_
      exact lc_speed h0 hi hcl hsl hI hP hD hS hl kk
    · refine lv_tableIn (tgt := 724) (off := 685) hx hb dL_law_39 (by decide) (by decide) rfl (by decide) ?_
      exact lc_pass h0 hi hcl hsl hI hP hD hS hl kk
    · refine lv_tableIn (tgt := 780) (off := 741) hx hb dL_law_39 (by decide) (by decide) rfl (by decide) ?_
      exact lc_clock h0 hi hcl hsl hI hP hD hS hl kk
    · refine lv_tableIn (tgt := 793) (off := 754) hx hb dL_law_39 (by decide) (by decide) rfl (by decide) ?_
      exact lc_temperature h0 hi hcl hsl hI hP hD hS hl kk
    · refine lv_tableIn (tgt := 849) (off := 810) hx hb dL_law_39 (by decide) (by decide) rfl (by decide) ?_
      exact lc_demand h0 hi hcl hsl hI hP hD hS hl kk
    · refine lv_tableIn (tgt := 905) (off := 866) hx hb dL_law_39 (by decide) (by decide) rfl (by decide) ?_
      exact lc_errors h0 hi hcl hsl hI hP hD hS hl kk
    · refine lv_tableIn (tgt := 961) (off := 922) hx hb dL_law_39 (by decide) (by decide) rfl (by decide) ?_
      exact lc_hotMinutes h0 hi hcl hsl hI hP hD hS hl kk
    · refine lv_tableIn (tgt := 1017) (off := 978) hx hb dL_law_39 (by decide) (by decide) rfl (by decide) ?_
      exact lc_hottest h0 hi hcl hsl hI hP hD hS hl kk
    · refine lv_tableIn (tgt := 1030) (off := 991) hx hb dL_law_39 (by decide) (by decide) rfl (by decide) ?_
      exact lc_expected h0 hi hcl hsl hI hP hD hS hl kk
    · refine lv_tableIn (tgt := 1098) (off := 1059) hx hb dL_law_39 (by decide) (by decide) rfl (by decide) ?_
      exact lc_critical h0 hi hcl hsl hI hP hD hS hl kk
    · refine lv_tableIn (tgt := 1166) (off := 1127) hx hb dL_law_39 (by decide) (by decide) rfl (by decide) ?_
      exact lc_margin h0 hi hcl hsl hI hP hD hS hl kk
    · refine lv_tableOut (tgt := 1234) hx hb dL_law_39 (Or.inr (by rw [toI j (by omega)]; omega)) (by decide) ?_
      refine lv_iinc (v := nI (i + 4)) (lv' := [(4, .int (nI (i + 4))), (0, .ref bs), (1, .ref (x 0)), (2, .ref (y 0)), (3, .ref o)]) hx hb dL_law_1234 hl (k := 4) rfl (nI_add _ 4) (by decide) rfl (fun ls hl => ?_)
      refine lv_goto (tgt := 23) hx hb dL_law_1237 (by decide) ?_
      refine W.widen (k := cl + 1) (n := sl + 6) (by omega) (by omega) ?_
      exact kk σ ρ μ ck Ho Hm Lo Se Em Ef gp gi am li dl g th hI H locs hP hD hS ls (lv_sub hl [1, 2, 3, 4, 0] rfl)

theorem law_hd (h0 : LC p l s m #[Value.ref bs] c D cI cZ cO cJ bs L xs A) (hr : meth.sig.returnType = ret) (hlocks : meth.locks = false) (hA9 : ∀ q, A q → s.heap.size ≤ q) : ∀ (n i cl sl : Nat), i ≤ 2048 → L ≤ i + 4 * n → cl + n + 1 ≤ 653765 → sl + 6 * n + 6 ≤ 7134809 → Hd p l e s m #[Value.ref bs] below meth c D cI cZ cO cJ x a t b y o bs A (lw_Z below #[Value.ref bs] s) i cl sl
  | 0, i, cl, sl, h1, h2, h3, h4 => law_step h0 hr hlocks hA9 h1 (by omega) (by omega) (fun hi => absurd hi (by omega))
  | n + 1, i, cl, sl, h1, h2, h3, h4 => law_step h0 hr hlocks hA9 h1 (by omega) (by omega) (fun hi => law_hd h0 hr hlocks hA9 n (i + 4) (cl + 1) (sl + 6) (by have := h0.2.2.2.2.2.2.2.2.2.2.2.2.2.2; omega) (by omega) (by omega) (by omega))
end LB
