section LB
variable {p : Program} {l : Launch} {e : Env} {s : State} {m : MethodId} {args : Array Value} {below : List Frame} {meth : Method} {c : Code} {Q : State → Prop} {D : va_G} {cI cZ cO cJ : ClassId} {x a t b y : Nat → Nat} {o bs L : Nat} {xs : Nat → Int32} {A : Nat → Prop} {i cl sl : Nat}
variable {σ ρ : HS} {μ : MS} {ck : Nat} {Ho Hm Lo Se Em : Nat → Int32} {Ef : Nat → Nat → Int32} {gp gi am li : Int32} {dl : Nat} {g : Nat → Int64} {th : Int32} {H : Heap} {locs : List Loc} {ls : Array Slot}
set_option maxHeartbeats 4000000 in
set_option maxRecDepth 100000 in
theorem lb_setLoad_ok (z : Nat) (v : Int32) (e1 : xs (i + 1) = nI z) (e2 : xs (i + 2) = v) (hz : z < 6) (hv : inR v (nI 0) (nI 200)) (h0 : LC p l s m args c D cI cZ cO cJ bs L xs A) (hi : i + 4 ≤ L) (hcl : cl + 1 ≤ 653765) (hsl : sl + 6 ≤ 7134809) (hI : LI σ μ ck Ho Hm Lo Se Em Ef gp gi am dl) (hP : va_P D vwCl (wL cI cZ cO cJ x a t b y o σ ρ μ ck Ho Hm Lo Se Em Ef gp gi am li dl g th) H) (hD : va_D A (wL cI cZ cO cJ x a t b y o σ ρ μ ck Ho Hm Lo Se Em Ef gp gi am li dl g th)) (hS : va_S A s.heap H locs) (hl : lv_has ls 7 [(0, .ref bs), (1, .ref (x 0)), (2, .ref (y 0)), (3, .ref o), (4, .int (nI i))]) (kk : Hd p l e s m args below meth c D cI cZ cO cJ x a t b y o bs A Q (i + 4) (cl + 1) (sl + 6)) : W p l e room_1 s m args below meth c H locs cl sl Q (F0 m 132 ls []) := by
  obtain ⟨hx, hb, hml, hts, hown, hK, hN, hX, hC, hA, hsc, hbl, hbA, hst, hL⟩ := h0
  refine lv_aload_n hx hb dL_law_132 rfl (lv_at hl 1 rfl) ?_
  refine lv_aload_n hx hb dL_law_133 rfl (lv_at hl 0 rfl) ?_
  refine lv_iload hx hb dL_law_134 (lv_at hl 4 rfl) ?_
  refine lv_iconst (v := nI 1) hx hb dL_law_136 (by decide +kernel) ?_
  refine lv_iadd hx hb dL_law_137 ?_
  refine k_as (nI_add _ _) ?_
  refine k_sld hx hb hsc hbl hbA hS (v := nI z) (by omega) hL e1 dL_law_138 ?_
  refine lv_aload_n hx hb dL_law_139 rfl (lv_at hl 0 rfl) ?_
  refine lv_iload hx hb dL_law_140 (lv_at hl 4 rfl) ?_
  refine lv_iconst (v := nI 2) hx hb dL_law_142 (by decide +kernel) ?_
  refine lv_iadd hx hb dL_law_143 ?_
  refine k_as (nI_add _ _) ?_
  refine k_sld hx hb hsc hbl hbA hS (v := v) (by omega) hL e2 dL_law_144 ?_
  refine lv_aload_n hx hb dL_law_145 rfl (lv_at hl 3 rfl) ?_
  refine kCallP_i (mc := 0) (ms := 0) (W1 := fun _ : Unit => wC cI cZ cO x a t b ck Ho (sT σ) (sE σ) (sD σ) (sF σ) (sS σ) (sC σ) (sL σ) (sT ρ) (sE ρ) (sD ρ) (sF ρ) (sS ρ) (sC ρ) (sL ρ) (upd Lo z v) Se Ef gp gi am li dl ++ [(o, .inl (cJ, 1, .inr (.inl (vp_updL g 0 ((Lo z)).toInt64))))]) (fun _ _ h => h) hP hD hS hA (fun _ => rfl) (vx_runSW (As := [.ref (x 0), .int (nI z), .int v, .ref o]) (rest := []) ⟨hx, hb, hml, hown, hts⟩ (c_L_setLoad l D cI cZ cO cJ x a t b ck Ho (sT σ) (sE σ) (sD σ) (sF σ) (sS σ) (sC σ) (sL σ) (sT ρ) (sE ρ) (sD ρ) (sF ρ) (sS ρ) (sC ρ) (sL ρ) Lo Se Ef gp gi am li dl z v o g H.size hz hv.1 hv.2) (vx_cwSW (rm := rmL_setLoad) 4 hts gL_law_L_setLoad rfl rfl rfl (by decide +kernel) ⟨Nat.le_of_ble_eq_true rfl, Nat.le_of_ble_eq_true rfl⟩) (kPreSHW hK hN hX hC (pfP hP) (pfD hD) hS (kfree (pfD hD) hS hA)) rfl rfl hl.1 rfl (lv_room (Nat.le_of_ble_eq_true rfl)) dL_law_146 ⟨by show _ ≤ 653765; omega, by show _ ≤ 7134809; omega⟩) (fun r9 u H locs hr9 hP hD hS => ?_)
  subst hr9
  have hP : va_P D vwCl ((wC cI cZ cO x a t b ck Ho (sT σ) (sE σ) (sD σ) (sF σ) (sS σ) (sC σ) (sL σ) (sT ρ) (sE ρ) (sD ρ) (sF ρ) (sS ρ) (sC ρ) (sL ρ) (upd Lo z v) Se Ef gp gi am li dl ++ [(o, .inl (cJ, 1, .inr (.inl (vp_updL g 0 ((Lo z)).toInt64))))]) ++ wM cI cZ y Lo Se Em gp gi am li dl (rK μ) (rT μ) (rE μ) (rD μ) (rF μ) (rS μ) (rC μ) Hm th) H := hP
  have hD : va_D A ((wC cI cZ cO x a t b ck Ho (sT σ) (sE σ) (sD σ) (sF σ) (sS σ) (sC σ) (sL σ) (sT ρ) (sE ρ) (sD ρ) (sF ρ) (sS ρ) (sC ρ) (sL ρ) (upd Lo z v) Se Ef gp gi am li dl ++ [(o, .inl (cJ, 1, .inr (.inl (vp_updL g 0 ((Lo z)).toInt64))))]) ++ wM cI cZ y Lo Se Em gp gi am li dl (rK μ) (rT μ) (rE μ) (rD μ) (rF μ) (rS μ) (rC μ) Hm th) := hD
  refine lv_istore (lv' := [(5, .int (nI 0)), (0, .ref bs), (1, .ref (x 0)), (2, .ref (y 0)), (3, .ref o), (4, .int (nI i))]) hx hb dL_law_149 hl (by decide) rfl (fun ls hl => ?_)
  refine lv_aload_n hx hb dL_law_151 rfl (lv_at hl 3 rfl) ?_
  refine lv_aload_n hx hb dL_law_152 rfl (lv_at hl 1 rfl) ?_
  refine lv_iload hx hb dL_law_153 (lv_at hl 5 rfl) ?_
  refine lv_iconst (v := nI 1) hx hb dL_law_155 (by decide +kernel) ?_
  refine lv_iadd hx hb dL_law_156 ?_
  refine k_as (nI_add _ _) ?_
  refine k_sld hx hb hsc hbl hbA hS (v := nI z) (by omega) hL e1 dL_law_157 ?_
  refine lv_aload_n hx hb dL_law_158 rfl (lv_at hl 1 rfl) ?_
  refine lv_iload hx hb dL_law_159 (lv_at hl 5 rfl) ?_
  refine lv_iconst (v := nI 2) hx hb dL_law_161 (by decide +kernel) ?_
  refine lv_iadd hx hb dL_law_162 ?_
  refine k_as (nI_add _ _) ?_
  refine k_sld hx hb hsc hbl hbA hS (v := v) (by omega) hL e2 dL_law_163 ?_
  refine kCallS_i (mc := 0) (ms := 0) (W1 := fun _ : Unit => wM cI cZ y (upd Lo z v) Se Em gp gi am li dl (rK μ) (rT μ) (rE μ) (rD μ) (rF μ) (rS μ) (rC μ) Hm (nI 0)) (fun _ _ h => h) hP hD hS hA (fun _ => rfl) (va_runV (As := [.int (nI z), .int v]) (rest := []) ⟨hx, hb, hml, hown, hts⟩ (c_X3_setLoad_ok l D cI cZ cO cJ y Lo Se Em gp gi am li dl (rK μ) (rT μ) (rE μ) (rD μ) (rF μ) (rS μ) (rC μ) Hm th z v H.size hz hv) (cwV (rm := rmX3_setLoad) 2 hts gL_law_X3_setLoad rfl rfl rfl (by decide +kernel) ⟨Nat.le_of_ble_eq_true rfl, Nat.le_of_ble_eq_true rfl⟩) (kPreVW hK hN (sfP hP) (sfD hD) (va_recv hK (sfP hP) (ci := 3) (q0 := 0) rfl rfl)) rfl rfl hl.1 rfl (lv_room (Nat.le_of_ble_eq_true rfl)) dL_law_164 ⟨by show _ ≤ 653765; omega, by show _ ≤ 7134809; omega⟩) (fun r9 u2 H locs hr9 hP hD hS => ?_)
  subst hr9
  have hP : va_P D vwCl ((wC cI cZ cO x a t b ck Ho (sT σ) (sE σ) (sD σ) (sF σ) (sS σ) (sC σ) (sL σ) (sT ρ) (sE ρ) (sD ρ) (sF ρ) (sS ρ) (sC ρ) (sL ρ) (upd Lo z v) Se Ef gp gi am li dl ++ [(o, .inl (cJ, 1, .inr (.inl (vp_updL g 0 ((Lo z)).toInt64))))]) ++ wM cI cZ y (upd Lo z v) Se Em gp gi am li dl (rK μ) (rT μ) (rE μ) (rD μ) (rF μ) (rS μ) (rC μ) Hm (nI 0)) H := hP
  have hD : va_D A ((wC cI cZ cO x a t b ck Ho (sT σ) (sE σ) (sD σ) (sF σ) (sS σ) (sC σ) (sL σ) (sT ρ) (sE ρ) (sD ρ) (sF ρ) (sS ρ) (sC ρ) (sL ρ) (upd Lo z v) Se Ef gp gi am li dl ++ [(o, .inl (cJ, 1, .inr (.inl (vp_updL g 0 ((Lo z)).toInt64))))]) ++ wM cI cZ y (upd Lo z v) Se Em gp gi am li dl (rK μ) (rT μ) (rE μ) (rD μ) (rF μ) (rS μ) (rC μ) Hm (nI 0)) := hD
  refine lv_istore (lv' := [(6, .int (Lo z)), (5, .int (nI 0)), (0, .ref bs), (1, .ref (x 0)), (2, .ref (y 0)), (3, .ref o), (4, .int (nI i))]) hx hb dL_law_167 hl (by decide) rfl (fun ls hl => ?_)
  refine lv_aload_n hx hb dL_law_169 rfl (lv_at hl 4 rfl) ?_
  refine kCallS_i (mc := 0) (ms := 0) (W1 := fun _ : Unit => wM cI cZ y (upd Lo z v) Se Em gp gi am li dl (rK μ) (rT μ) (rE μ) (rD μ) (rF μ) (rS μ) (rC μ) Hm (nI 0)) (fun _ _ h => h) hP hD hS hA (fun _ => rfl) (va_runV (As := []) (rest := []) ⟨hx, hb, hml, hown, hts⟩ (c_X3_thrown l D cI cZ cO cJ y (upd Lo z v) Se Em gp gi am li dl (rK μ) (rT μ) (rE μ) (rD μ) (rF μ) (rS μ) (rC μ) Hm (nI 0) H.size) (cwV (rm := rmX3_thrown) 0 hts gL_law_X3_thrown rfl rfl rfl (by decide +kernel) ⟨Nat.le_of_ble_eq_true rfl, Nat.le_of_ble_eq_true rfl⟩) (kPreVW hK hN (sfP hP) (sfD hD) (va_recv hK (sfP hP) (ci := 3) (q0 := 0) rfl rfl)) rfl rfl hl.1 rfl (lv_room (Nat.le_of_ble_eq_true rfl)) dL_law_170 ⟨by show _ ≤ 653765; omega, by show _ ≤ 7134809; omega⟩) (fun r9 u3 H locs hr9 hP hD hS => ?_)
  subst hr9
  have hP : va_P D vwCl ((wC cI cZ cO x a t b ck Ho (sT σ) (sE σ) (sD σ) (sF σ) (sS σ) (sC σ) (sL σ) (sT ρ) (sE ρ) (sD ρ) (sF ρ) (sS ρ) (sC ρ) (sL ρ) (upd Lo z v) Se Ef gp gi am li dl ++ [(o, .inl (cJ, 1, .inr (.inl (vp_updL g 0 ((Lo z)).toInt64))))]) ++ wM cI cZ y (upd Lo z v) Se Em gp gi am li dl (rK μ) (rT μ) (rE μ) (rD μ) (rF μ) (rS μ) (rC μ) Hm (nI 0)) H := hP
  have hD : va_D A ((wC cI cZ cO x a t b ck Ho (sT σ) (sE σ) (sD σ) (sF σ) (sS σ) (sC σ) (sL σ) (sT ρ) (sE ρ) (sD ρ) (sF ρ) (sS ρ) (sC ρ) (sL ρ) (upd Lo z v) Se Ef gp gi am li dl ++ [(o, .inl (cJ, 1, .inr (.inl (vp_updL g 0 ((Lo z)).toInt64))))]) ++ wM cI cZ y (upd Lo z v) Se Em gp gi am li dl (rK μ) (rT μ) (rE μ) (rD μ) (rF μ) (rS μ) (rC μ) Hm (nI 0)) := hD
  refine lv_iload hx hb dL_law_173 (lv_at hl 1 rfl) ?_
  refine lv_icmp_eq (tgt := 180) hx hb dL_law_175 (by decide) (fun _ => ?_) (fun c9 => absurd rfl c9)
  refine lv_iload hx hb dL_law_180 (lv_at hl 1 rfl) ?_
  refine lv_if_ne (tgt := 197) hx hb dL_law_182 (by decide) (fun c9 => absurd rfl c9) (fun _ => ?_)
  refine lv_aload_n hx hb dL_law_185 rfl (lv_at hl 5 rfl) ?_
  refine lv_iconst (v := nI 0) hx hb dL_law_186 (by decide +kernel) ?_
  refine k_laldS hx hb hK 3 rfl hP dL_law_187 ?_
  refine lv_iload hx hb dL_law_188 (lv_at hl 0 rfl) ?_
  refine lv_i2l hx hb dL_law_190 rfl ?_
  refine k_lcmp0 (pk_uLs.trans (congrArg Int32.toInt64 rfl)) hx hb dL_law_191 ?_
  refine lv_if_eq (tgt := 197) hx hb dL_law_192 (by decide) (fun _ => ?_) (fun c9 => absurd rfl c9)
  refine lv_goto (tgt := 1234) hx hb dL_law_197 (by decide) ?_
  refine lv_iinc (v := nI (i + 4)) (lv' := [(4, .int (nI (i + 4))), (6, .int (Lo z)), (5, .int (nI 0)), (0, .ref bs), (1, .ref (x 0)), (2, .ref (y 0)), (3, .ref o)]) hx hb dL_law_1234 hl (k := 6) rfl (nI_add _ 4) (by decide) rfl (fun ls hl => ?_)
  refine lv_goto (tgt := 23) hx hb dL_law_1237 (by decide) ?_
  refine W.widen (k := cl + 1) (n := sl + 6) (by omega) (by omega) ?_
  exact kk σ ρ μ ck Ho Hm (upd Lo z v) Se Em Ef gp gi am li dl _ _ (LI_load hI hv) H locs hP hD hS ls (lv_sub hl [3, 4, 5, 6, 0] rfl)

set_option maxHeartbeats 4000000 in
set_option maxRecDepth 100000 in
theorem lb_setLoad_bad (h : ¬ (inR (xs (i + 1)) (nI 0) (nI 5) ∧ inR (xs (i + 2)) (nI 0) (nI 200))) (h0 : LC p l s m args c D cI cZ cO cJ bs L xs A) (hi : i + 4 ≤ L) (hcl : cl + 1 ≤ 653765) (hsl : sl + 6 ≤ 7134809) (hI : LI σ μ ck Ho Hm Lo Se Em Ef gp gi am dl) (hP : va_P D vwCl (wL cI cZ cO cJ x a t b y o σ ρ μ ck Ho Hm Lo Se Em Ef gp gi am li dl g th) H) (hD : va_D A (wL cI cZ cO cJ x a t b y o σ ρ μ ck Ho Hm Lo Se Em Ef gp gi am li dl g th)) (hS : va_S A s.heap H locs) (hl : lv_has ls 7 [(0, .ref bs), (1, .ref (x 0)), (2, .ref (y 0)), (3, .ref o), (4, .int (nI i))]) (kk : Hd p l e s m args below meth c D cI cZ cO cJ x a t b y o bs A Q (i + 4) (cl + 1) (sl + 6)) : W p l e room_1 s m args below meth c H locs cl sl Q (F0 m 132 ls []) := by
  obtain ⟨hx, hb, hml, hts, hown, hK, hN, hX, hC, hA, hsc, hbl, hbA, hst, hL⟩ := h0
  refine lv_aload_n hx hb dL_law_132 rfl (lv_at hl 1 rfl) ?_
  refine lv_aload_n hx hb dL_law_133 rfl (lv_at hl 0 rfl) ?_
  refine lv_iload hx hb dL_law_134 (lv_at hl 4 rfl) ?_
  refine lv_iconst (v := nI 1) hx hb dL_law_136 (by decide +kernel) ?_
  refine lv_iadd hx hb dL_law_137 ?_
  refine k_as (nI_add _ _) ?_
  refine k_sld hx hb hsc hbl hbA hS (v := xs (i + 1)) (by omega) hL rfl dL_law_138 ?_
  refine lv_aload_n hx hb dL_law_139 rfl (lv_at hl 0 rfl) ?_
  refine lv_iload hx hb dL_law_140 (lv_at hl 4 rfl) ?_
  refine lv_iconst (v := nI 2) hx hb dL_law_142 (by decide +kernel) ?_
  refine lv_iadd hx hb dL_law_143 ?_
  refine k_as (nI_add _ _) ?_
  refine k_sld hx hb hsc hbl hbA hS (v := xs (i + 2)) (by omega) hL rfl dL_law_144 ?_
  refine lv_aload_n hx hb dL_law_145 rfl (lv_at hl 3 rfl) ?_
  refine kCallP_i (mc := 1) (ms := 6) (W1 := fun _ : Unit => wC cI cZ cO x a t b ck Ho (sT σ) (sE σ) (sD σ) (sF σ) (sS σ) (sC σ) (sL σ) (sT ρ) (sE ρ) (sD ρ) (sF ρ) (sS ρ) (sC ρ) (sL ρ) Lo Se Ef gp gi am li dl ++ [(o, .inl (cJ, 1, .inr (.inl g)))]) (fun _ _ h => h) hP hD hS hA (fun _ => rfl) (vx_runSW (As := [.ref (x 0), .int (xs (i + 1)), .int (xs (i + 2)), .ref o]) (rest := []) ⟨hx, hb, hml, hown, hts⟩ (c_L_setLoad_bad l hst D cI cZ cO cJ x a t b ck Ho (sT σ) (sE σ) (sD σ) (sF σ) (sS σ) (sC σ) (sL σ) (sT ρ) (sE ρ) (sD ρ) (sF ρ) (sS ρ) (sC ρ) (sL ρ) Lo Se Ef gp gi am li dl (xs (i + 1)) (xs (i + 2)) o g H.size h) (vx_cwSW (rm := rxL_setLoad) 4 hts gL_law_L_setLoad rfl rfl rfl (by decide +kernel) ⟨Nat.le_of_ble_eq_true rfl, Nat.le_of_ble_eq_true rfl⟩) (kPreSHW hK hN hX hC (pfP hP) (pfD hD) hS (kfree (pfD hD) hS hA)) rfl rfl hl.1 rfl (lv_room (Nat.le_of_ble_eq_true rfl)) dL_law_146 ⟨by show _ ≤ 653765; omega, by show _ ≤ 7134809; omega⟩) (fun r9 u H locs hr9 hP hD hS => ?_)
  subst hr9
  have hP : va_P D vwCl ((wC cI cZ cO x a t b ck Ho (sT σ) (sE σ) (sD σ) (sF σ) (sS σ) (sC σ) (sL σ) (sT ρ) (sE ρ) (sD ρ) (sF ρ) (sS ρ) (sC ρ) (sL ρ) Lo Se Ef gp gi am li dl ++ [(o, .inl (cJ, 1, .inr (.inl g)))]) ++ wM cI cZ y Lo Se Em gp gi am li dl (rK μ) (rT μ) (rE μ) (rD μ) (rF μ) (rS μ) (rC μ) Hm th) H := hP
  have hD : va_D A ((wC cI cZ cO x a t b ck Ho (sT σ) (sE σ) (sD σ) (sF σ) (sS σ) (sC σ) (sL σ) (sT ρ) (sE ρ) (sD ρ) (sF ρ) (sS ρ) (sC ρ) (sL ρ) Lo Se Ef gp gi am li dl ++ [(o, .inl (cJ, 1, .inr (.inl g)))]) ++ wM cI cZ y Lo Se Em gp gi am li dl (rK μ) (rT μ) (rE μ) (rD μ) (rF μ) (rS μ) (rC μ) Hm th) := hD
  refine lv_istore (lv' := [(5, .int (nI 1)), (0, .ref bs), (1, .ref (x 0)), (2, .ref (y 0)), (3, .ref o), (4, .int (nI i))]) hx hb dL_law_149 hl (by decide) rfl (fun ls hl => ?_)
  refine lv_aload_n hx hb dL_law_151 rfl (lv_at hl 3 rfl) ?_
  refine lv_aload_n hx hb dL_law_152 rfl (lv_at hl 1 rfl) ?_
  refine lv_iload hx hb dL_law_153 (lv_at hl 5 rfl) ?_
  refine lv_iconst (v := nI 1) hx hb dL_law_155 (by decide +kernel) ?_
  refine lv_iadd hx hb dL_law_156 ?_
  refine k_as (nI_add _ _) ?_
  refine k_sld hx hb hsc hbl hbA hS (v := xs (i + 1)) (by omega) hL rfl dL_law_157 ?_
  refine lv_aload_n hx hb dL_law_158 rfl (lv_at hl 1 rfl) ?_
  refine lv_iload hx hb dL_law_159 (lv_at hl 5 rfl) ?_
  refine lv_iconst (v := nI 2) hx hb dL_law_161 (by decide +kernel) ?_
  refine lv_iadd hx hb dL_law_162 ?_
  refine k_as (nI_add _ _) ?_
  refine k_sld hx hb hsc hbl hbA hS (v := xs (i + 2)) (by omega) hL rfl dL_law_163 ?_
  refine kCallS_i (mc := 0) (ms := 0) (W1 := fun _ : Unit => wM cI cZ y Lo Se Em gp gi am li dl (rK μ) (rT μ) (rE μ) (rD μ) (rF μ) (rS μ) (rC μ) Hm (nI 1)) (fun _ _ h => h) hP hD hS hA (fun _ => rfl) (va_runV (As := [.int (xs (i + 1)), .int (xs (i + 2))]) (rest := []) ⟨hx, hb, hml, hown, hts⟩ (c_X3_setLoad_bad l D cI cZ cO cJ y Lo Se Em gp gi am li dl (rK μ) (rT μ) (rE μ) (rD μ) (rF μ) (rS μ) (rC μ) Hm th (xs (i + 1)) (xs (i + 2)) H.size h) (cwV (rm := rmX3_setLoad) 2 hts gL_law_X3_setLoad rfl rfl rfl (by decide +kernel) ⟨Nat.le_of_ble_eq_true rfl, Nat.le_of_ble_eq_true rfl⟩) (kPreVW hK hN (sfP hP) (sfD hD) (va_recv hK (sfP hP) (ci := 3) (q0 := 0) rfl rfl)) rfl rfl hl.1 rfl (lv_room (Nat.le_of_ble_eq_true rfl)) dL_law_164 ⟨by show _ ≤ 653765; omega, by show _ ≤ 7134809; omega⟩) (fun r9 u2 H locs hr9 hP hD hS => ?_)
  subst hr9
  have hP : va_P D vwCl ((wC cI cZ cO x a t b ck Ho (sT σ) (sE σ) (sD σ) (sF σ) (sS σ) (sC σ) (sL σ) (sT ρ) (sE ρ) (sD ρ) (sF ρ) (sS ρ) (sC ρ) (sL ρ) Lo Se Ef gp gi am li dl ++ [(o, .inl (cJ, 1, .inr (.inl g)))]) ++ wM cI cZ y Lo Se Em gp gi am li dl (rK μ) (rT μ) (rE μ) (rD μ) (rF μ) (rS μ) (rC μ) Hm (nI 1)) H := hP
  have hD : va_D A ((wC cI cZ cO x a t b ck Ho (sT σ) (sE σ) (sD σ) (sF σ) (sS σ) (sC σ) (sL σ) (sT ρ) (sE ρ) (sD ρ) (sF ρ) (sS ρ) (sC ρ) (sL ρ) Lo Se Ef gp gi am li dl ++ [(o, .inl (cJ, 1, .inr (.inl g)))]) ++ wM cI cZ y Lo Se Em gp gi am li dl (rK μ) (rT μ) (rE μ) (rD μ) (rF μ) (rS μ) (rC μ) Hm (nI 1)) := hD
  refine lv_istore (lv' := [(6, .int (nI 0)), (5, .int (nI 1)), (0, .ref bs), (1, .ref (x 0)), (2, .ref (y 0)), (3, .ref o), (4, .int (nI i))]) hx hb dL_law_167 hl (by decide) rfl (fun ls hl => ?_)
  refine lv_aload_n hx hb dL_law_169 rfl (lv_at hl 4 rfl) ?_
  refine kCallS_i (mc := 0) (ms := 0) (W1 := fun _ : Unit => wM cI cZ y Lo Se Em gp gi am li dl (rK μ) (rT μ) (rE μ) (rD μ) (rF μ) (rS μ) (rC μ) Hm (nI 1)) (fun _ _ h => h) hP hD hS hA (fun _ => rfl) (va_runV (As := []) (rest := []) ⟨hx, hb, hml, hown, hts⟩ (c_X3_thrown l D cI cZ cO cJ y Lo Se Em gp gi am li dl (rK μ) (rT μ) (rE μ) (rD μ) (rF μ) (rS μ) (rC μ) Hm (nI 1) H.size) (cwV (rm := rmX3_thrown) 0 hts gL_law_X3_thrown rfl rfl rfl (by decide +kernel) ⟨Nat.le_of_ble_eq_true rfl, Nat.le_of_ble_eq_true rfl⟩) (kPreVW hK hN (sfP hP) (sfD hD) (va_recv hK (sfP hP) (ci := 3) (q0 := 0) rfl rfl)) rfl rfl hl.1 rfl (lv_room (Nat.le_of_ble_eq_true rfl)) dL_law_170 ⟨by show _ ≤ 653765; omega, by show _ ≤ 7134809; omega⟩) (fun r9 u3 H locs hr9 hP hD hS => ?_)
  subst hr9
  have hP : va_P D vwCl ((wC cI cZ cO x a t b ck Ho (sT σ) (sE σ) (sD σ) (sF σ) (sS σ) (sC σ) (sL σ) (sT ρ) (sE ρ) (sD ρ) (sF ρ) (sS ρ) (sC ρ) (sL ρ) Lo Se Ef gp gi am li dl ++ [(o, .inl (cJ, 1, .inr (.inl g)))]) ++ wM cI cZ y Lo Se Em gp gi am li dl (rK μ) (rT μ) (rE μ) (rD μ) (rF μ) (rS μ) (rC μ) Hm (nI 1)) H := hP
  have hD : va_D A ((wC cI cZ cO x a t b ck Ho (sT σ) (sE σ) (sD σ) (sF σ) (sS σ) (sC σ) (sL σ) (sT ρ) (sE ρ) (sD ρ) (sF ρ) (sS ρ) (sC ρ) (sL ρ) Lo Se Ef gp gi am li dl ++ [(o, .inl (cJ, 1, .inr (.inl g)))]) ++ wM cI cZ y Lo Se Em gp gi am li dl (rK μ) (rT μ) (rE μ) (rD μ) (rF μ) (rS μ) (rC μ) Hm (nI 1)) := hD
  refine lv_iload hx hb dL_law_173 (lv_at hl 1 rfl) ?_
  refine lv_icmp_eq (tgt := 180) hx hb dL_law_175 (by decide) (fun _ => ?_) (fun c9 => absurd rfl c9)
  refine lv_iload hx hb dL_law_180 (lv_at hl 1 rfl) ?_
  refine lv_if_ne (tgt := 197) hx hb dL_law_182 (by decide) (fun _ => ?_) (fun c9 => absurd c9 (by decide))
  refine lv_goto (tgt := 1234) hx hb dL_law_197 (by decide) ?_
  refine lv_iinc (v := nI (i + 4)) (lv' := [(4, .int (nI (i + 4))), (6, .int (nI 0)), (5, .int (nI 1)), (0, .ref bs), (1, .ref (x 0)), (2, .ref (y 0)), (3, .ref o)]) hx hb dL_law_1234 hl (k := 6) rfl (nI_add _ 4) (by decide) rfl (fun ls hl => ?_)
  refine lv_goto (tgt := 23) hx hb dL_law_1237 (by decide) ?_
  refine W.widen (k := cl + 1) (n := sl + 6) (by omega) (by omega) ?_
  exact kk σ ρ μ ck Ho Hm Lo Se Em Ef gp gi am li dl _ _ hI H locs hP hD hS ls (lv_sub hl [3, 4, 5, 6, 0] rfl)

set_option maxHeartbeats 4000000 in
set_option maxRecDepth 100000 in
theorem lb_setSetpoint_ok (z : Nat) (v : Int32) (e1 : xs (i + 1) = nI z) (e2 : xs (i + 2) = v) (hz : z < 6) (hv : inR v (nI 1500) (nI 3500)) (h0 : LC p l s m args c D cI cZ cO cJ bs L xs A) (hi : i + 4 ≤ L) (hcl : cl + 1 ≤ 653765) (hsl : sl + 6 ≤ 7134809) (hI : LI σ μ ck Ho Hm Lo Se Em Ef gp gi am dl) (hP : va_P D vwCl (wL cI cZ cO cJ x a t b y o σ ρ μ ck Ho Hm Lo Se Em Ef gp gi am li dl g th) H) (hD : va_D A (wL cI cZ cO cJ x a t b y o σ ρ μ ck Ho Hm Lo Se Em Ef gp gi am li dl g th)) (hS : va_S A s.heap H locs) (hl : lv_has ls 7 [(0, .ref bs), (1, .ref (x 0)), (2, .ref (y 0)), (3, .ref o), (4, .int (nI i))]) (kk : Hd p l e s m args below meth c D cI cZ cO cJ x a t b y o bs A Q (i + 4) (cl + 1) (sl + 6)) : W p l e room_1 s m args below meth c H locs cl sl Q (F0 m 200 ls []) := by
  obtain ⟨hx, hb, hml, hts, hown, hK, hN, hX, hC, hA, hsc, hbl, hbA, hst, hL⟩ := h0
  refine lv_aload_n hx hb dL_law_200 rfl (lv_at hl 1 rfl) ?_
  refine lv_aload_n hx hb dL_law_201 rfl (lv_at hl 0 rfl) ?_
  refine lv_iload hx hb dL_law_202 (lv_at hl 4 rfl) ?_
  refine lv_iconst (v := nI 1) hx hb dL_law_204 (by decide +kernel) ?_
  refine lv_iadd hx hb dL_law_205 ?_
  refine k_as (nI_add _ _) ?_
  refine k_sld hx hb hsc hbl hbA hS (v := nI z) (by omega) hL e1 dL_law_206 ?_
  refine lv_aload_n hx hb dL_law_207 rfl (lv_at hl 0 rfl) ?_
  refine lv_iload hx hb dL_law_208 (lv_at hl 4 rfl) ?_
  refine lv_iconst (v := nI 2) hx hb dL_law_210 (by decide +kernel) ?_
  refine lv_iadd hx hb dL_law_211 ?_
  refine k_as (nI_add _ _) ?_
  refine k_sld hx hb hsc hbl hbA hS (v := v) (by omega) hL e2 dL_law_212 ?_
  refine lv_aload_n hx hb dL_law_213 rfl (lv_at hl 3 rfl) ?_
  refine kCallP_i (mc := 0) (ms := 0) (W1 := fun _ : Unit => wC cI cZ cO x a t b ck Ho (sT σ) (upd (sE σ) z (nI 0)) (sD σ) (sF σ) (sS σ) (sC σ) (sL σ) (sT ρ) (sE ρ) (sD ρ) (sF ρ) (sS ρ) (sC ρ) (sL ρ) Lo (upd Se z v) Ef gp gi am li dl ++ [(o, .inl (cJ, 1, .inr (.inl (vp_updL g 0 ((Se z)).toInt64))))]) (fun _ _ h => h) hP hD hS hA (fun _ => rfl) (vx_runSW (As := [.ref (x 0), .int (nI z), .int v, .ref o]) (rest := []) ⟨hx, hb, hml, hown, hts⟩ (c_L_setSetpoint l D cI cZ cO cJ x a t b ck Ho (sT σ) (sE σ) (sD σ) (sF σ) (sS σ) (sC σ) (sL σ) (sT ρ) (sE ρ) (sD ρ) (sF ρ) (sS ρ) (sC ρ) (sL ρ) Lo Se Ef gp gi am li dl z v o g H.size hz hv.1 hv.2) (vx_cwSW (rm := rmL_setSetpoint) 4 hts gL_law_L_setSetpoint rfl rfl rfl (by decide +kernel) ⟨Nat.le_of_ble_eq_true rfl, Nat.le_of_ble_eq_true rfl⟩) (kPreSHW hK hN hX hC (pfP hP) (pfD hD) hS (kfree (pfD hD) hS hA)) rfl rfl hl.1 rfl (lv_room (Nat.le_of_ble_eq_true rfl)) dL_law_214 ⟨by show _ ≤ 653765; omega, by show _ ≤ 7134809; omega⟩) (fun r9 u H locs hr9 hP hD hS => ?_)
  subst hr9
  have hP : va_P D vwCl ((wC cI cZ cO x a t b ck Ho (sT σ) (upd (sE σ) z (nI 0)) (sD σ) (sF σ) (sS σ) (sC σ) (sL σ) (sT ρ) (sE ρ) (sD ρ) (sF ρ) (sS ρ) (sC ρ) (sL ρ) Lo (upd Se z v) Ef gp gi am li dl ++ [(o, .inl (cJ, 1, .inr (.inl (vp_updL g 0 ((Se z)).toInt64))))]) ++ wM cI cZ y Lo Se Em gp gi am li dl (rK μ) (rT μ) (rE μ) (rD μ) (rF μ) (rS μ) (rC μ) Hm th) H := hP
  have hD : va_D A ((wC cI cZ cO x a t b ck Ho (sT σ) (upd (sE σ) z (nI 0)) (sD σ) (sF σ) (sS σ) (sC σ) (sL σ) (sT ρ) (sE ρ) (sD ρ) (sF ρ) (sS ρ) (sC ρ) (sL ρ) Lo (upd Se z v) Ef gp gi am li dl ++ [(o, .inl (cJ, 1, .inr (.inl (vp_updL g 0 ((Se z)).toInt64))))]) ++ wM cI cZ y Lo Se Em gp gi am li dl (rK μ) (rT μ) (rE μ) (rD μ) (rF μ) (rS μ) (rC μ) Hm th) := hD
  refine lv_istore (lv' := [(5, .int (nI 0)), (0, .ref bs), (1, .ref (x 0)), (2, .ref (y 0)), (3, .ref o), (4, .int (nI i))]) hx hb dL_law_217 hl (by decide) rfl (fun ls hl => ?_)
  refine lv_aload_n hx hb dL_law_219 rfl (lv_at hl 3 rfl) ?_
  refine lv_aload_n hx hb dL_law_220 rfl (lv_at hl 1 rfl) ?_
  refine lv_iload hx hb dL_law_221 (lv_at hl 5 rfl) ?_
  refine lv_iconst (v := nI 1) hx hb dL_law_223 (by decide +kernel) ?_
  refine lv_iadd hx hb dL_law_224 ?_
  refine k_as (nI_add _ _) ?_
  refine k_sld hx hb hsc hbl hbA hS (v := nI z) (by omega) hL e1 dL_law_225 ?_
  refine lv_aload_n hx hb dL_law_226 rfl (lv_at hl 1 rfl) ?_
  refine lv_iload hx hb dL_law_227 (lv_at hl 5 rfl) ?_
  refine lv_iconst (v := nI 2) hx hb dL_law_229 (by decide +kernel) ?_
  refine lv_iadd hx hb dL_law_230 ?_
  refine k_as (nI_add _ _) ?_
  refine k_sld hx hb hsc hbl hbA hS (v := v) (by omega) hL e2 dL_law_231 ?_
  refine kCallS_i (mc := 0) (ms := 0) (W1 := fun _ : Unit => wM cI cZ y Lo (upd Se z v) Em gp gi am li dl (rK μ) (rT μ) (upd (rE μ) z (nI 0)) (rD μ) (rF μ) (rS μ) (rC μ) Hm (nI 0)) (fun _ _ h => h) hP hD hS hA (fun _ => rfl) (va_runV (As := [.int (nI z), .int v]) (rest := []) ⟨hx, hb, hml, hown, hts⟩ (c_X3_setSetpoint_ok l D cI cZ cO cJ y Lo Se Em gp gi am li dl (rK μ) (rT μ) (rE μ) (rD μ) (rF μ) (rS μ) (rC μ) Hm th z v H.size hz hv) (cwV (rm := rmX3_setSetpoint) 2 hts gL_law_X3_setSetpoint rfl rfl rfl (by decide +kernel) ⟨Nat.le_of_ble_eq_true rfl, Nat.le_of_ble_eq_true rfl⟩) (kPreVW hK hN (sfP hP) (sfD hD) (va_recv hK (sfP hP) (ci := 3) (q0 := 0) rfl rfl)) rfl rfl hl.1 rfl (lv_room (Nat.le_of_ble_eq_true rfl)) dL_law_232 ⟨by show _ ≤ 653765; omega, by show _ ≤ 7134809; omega⟩) (fun r9 u2 H locs hr9 hP hD hS => ?_)
  subst hr9
  have hP : va_P D vwCl ((wC cI cZ cO x a t b ck Ho (sT σ) (upd (sE σ) z (nI 0)) (sD σ) (sF σ) (sS σ) (sC σ) (sL σ) (sT ρ) (sE ρ) (sD ρ) (sF ρ) (sS ρ) (sC ρ) (sL ρ) Lo (upd Se z v) Ef gp gi am li dl ++ [(o, .inl (cJ, 1, .inr (.inl (vp_updL g 0 ((Se z)).toInt64))))]) ++ wM cI cZ y Lo (upd Se z v) Em gp gi am li dl (rK μ) (rT μ) (upd (rE μ) z (nI 0)) (rD μ) (rF μ) (rS μ) (rC μ) Hm (nI 0)) H := hP
  have hD : va_D A ((wC cI cZ cO x a t b ck Ho (sT σ) (upd (sE σ) z (nI 0)) (sD σ) (sF σ) (sS σ) (sC σ) (sL σ) (sT ρ) (sE ρ) (sD ρ) (sF ρ) (sS ρ) (sC ρ) (sL ρ) Lo (upd Se z v) Ef gp gi am li dl ++ [(o, .inl (cJ, 1, .inr (.inl (vp_updL g 0 ((Se z)).toInt64))))]) ++ wM cI cZ y Lo (upd Se z v) Em gp gi am li dl (rK μ) (rT μ) (upd (rE μ) z (nI 0)) (rD μ) (rF μ) (rS μ) (rC μ) Hm (nI 0)) := hD
  refine lv_istore (lv' := [(6, .int (Se z)), (5, .int (nI 0)), (0, .ref bs), (1, .ref (x 0)), (2, .ref (y 0)), (3, .ref o), (4, .int (nI i))]) hx hb dL_law_235 hl (by decide) rfl (fun ls hl => ?_)
  refine lv_aload_n hx hb dL_law_237 rfl (lv_at hl 4 rfl) ?_
  refine kCallS_i (mc := 0) (ms := 0) (W1 := fun _ : Unit => wM cI cZ y Lo (upd Se z v) Em gp gi am li dl (rK μ) (rT μ) (upd (rE μ) z (nI 0)) (rD μ) (rF μ) (rS μ) (rC μ) Hm (nI 0)) (fun _ _ h => h) hP hD hS hA (fun _ => rfl) (va_runV (As := []) (rest := []) ⟨hx, hb, hml, hown, hts⟩ (c_X3_thrown l D cI cZ cO cJ y Lo (upd Se z v) Em gp gi am li dl (rK μ) (rT μ) (upd (rE μ) z (nI 0)) (rD μ) (rF μ) (rS μ) (rC μ) Hm (nI 0) H.size) (cwV (rm := rmX3_thrown) 0 hts gL_law_X3_thrown rfl rfl rfl (by decide +kernel) ⟨Nat.le_of_ble_eq_true rfl, Nat.le_of_ble_eq_true rfl⟩) (kPreVW hK hN (sfP hP) (sfD hD) (va_recv hK (sfP hP) (ci := 3) (q0 := 0) rfl rfl)) rfl rfl hl.1 rfl (lv_room (Nat.le_of_ble_eq_true rfl)) dL_law_238 ⟨by show _ ≤ 653765; omega, by show _ ≤ 7134809; omega⟩) (fun r9 u3 H locs hr9 hP hD hS => ?_)
  subst hr9
  have hP : va_P D vwCl ((wC cI cZ cO x a t b ck Ho (sT σ) (upd (sE σ) z (nI 0)) (sD σ) (sF σ) (sS σ) (sC σ) (sL σ) (sT ρ) (sE ρ) (sD ρ) (sF ρ) (sS ρ) (sC ρ) (sL ρ) Lo (upd Se z v) Ef gp gi am li dl ++ [(o, .inl (cJ, 1, .inr (.inl (vp_updL g 0 ((Se z)).toInt64))))]) ++ wM cI cZ y Lo (upd Se z v) Em gp gi am li dl (rK μ) (rT μ) (upd (rE μ) z (nI 0)) (rD μ) (rF μ) (rS μ) (rC μ) Hm (nI 0)) H := hP
  have hD : va_D A ((wC cI cZ cO x a t b ck Ho (sT σ) (upd (sE σ) z (nI 0)) (sD σ) (sF σ) (sS σ) (sC σ) (sL σ) (sT ρ) (sE ρ) (sD ρ) (sF ρ) (sS ρ) (sC ρ) (sL ρ) Lo (upd Se z v) Ef gp gi am li dl ++ [(o, .inl (cJ, 1, .inr (.inl (vp_updL g 0 ((Se z)).toInt64))))]) ++ wM cI cZ y Lo (upd Se z v) Em gp gi am li dl (rK μ) (rT μ) (upd (rE μ) z (nI 0)) (rD μ) (rF μ) (rS μ) (rC μ) Hm (nI 0)) := hD
  refine lv_iload hx hb dL_law_241 (lv_at hl 1 rfl) ?_
  refine lv_icmp_eq (tgt := 248) hx hb dL_law_243 (by decide) (fun _ => ?_) (fun c9 => absurd rfl c9)
  refine lv_iload hx hb dL_law_248 (lv_at hl 1 rfl) ?_
  refine lv_if_ne (tgt := 265) hx hb dL_law_250 (by decide) (fun c9 => absurd rfl c9) (fun _ => ?_)
  refine lv_aload_n hx hb dL_law_253 rfl (lv_at hl 5 rfl) ?_
  refine lv_iconst (v := nI 0) hx hb dL_law_254 (by decide +kernel) ?_
  refine k_laldS hx hb hK 3 rfl hP dL_law_255 ?_
  refine lv_iload hx hb dL_law_256 (lv_at hl 0 rfl) ?_
  refine lv_i2l hx hb dL_law_258 rfl ?_
  refine k_lcmp0 (pk_uLs.trans (congrArg Int32.toInt64 rfl)) hx hb dL_law_259 ?_
  refine lv_if_eq (tgt := 265) hx hb dL_law_260 (by decide) (fun _ => ?_) (fun c9 => absurd rfl c9)
  refine lv_goto (tgt := 1234) hx hb dL_law_265 (by decide) ?_
  refine lv_iinc (v := nI (i + 4)) (lv' := [(4, .int (nI (i + 4))), (6, .int (Se z)), (5, .int (nI 0)), (0, .ref bs), (1, .ref (x 0)), (2, .ref (y 0)), (3, .ref o)]) hx hb dL_law_1234 hl (k := 6) rfl (nI_add _ 4) (by decide) rfl (fun ls hl => ?_)
  refine lv_goto (tgt := 23) hx hb dL_law_1237 (by decide) ?_
  refine W.widen (k := cl + 1) (n := sl + 6) (by omega) (by omega) ?_
  exact kk (sT σ, upd (sE σ) z (nI 0), sD σ, sF σ, sS σ, sC σ, sL σ) ρ (rK μ, rT μ, upd (rE μ) z (nI 0), rD μ, rF μ, rS μ, rC μ) ck Ho Hm Lo (upd Se z v) Em Ef gp gi am li dl _ _ (LI_set hI hv) H locs hP hD hS ls (lv_sub hl [3, 4, 5, 6, 0] rfl)

set_option maxHeartbeats 4000000 in
set_option maxRecDepth 100000 in
theorem lb_setSetpoint_bad (h : ¬ (inR (xs (i + 1)) (nI 0) (nI 5) ∧ inR (xs (i + 2)) (nI 1500) (nI 3500))) (h0 : LC p l s m args c D cI cZ cO cJ bs L xs A) (hi : i + 4 ≤ L) (hcl : cl + 1 ≤ 653765) (hsl : sl + 6 ≤ 7134809) (hI : LI σ μ ck Ho Hm Lo Se Em Ef gp gi am dl) (hP : va_P D vwCl (wL cI cZ cO cJ x a t b y o σ ρ μ ck Ho Hm Lo Se Em Ef gp gi am li dl g th) H) (hD : va_D A (wL cI cZ cO cJ x a t b y o σ ρ μ ck Ho Hm Lo Se Em Ef gp gi am li dl g th)) (hS : va_S A s.heap H locs) (hl : lv_has ls 7 [(0, .ref bs), (1, .ref (x 0)), (2, .ref (y 0)), (3, .ref o), (4, .int (nI i))]) (kk : Hd p l e s m args below meth c D cI cZ cO cJ x a t b y o bs A Q (i + 4) (cl + 1) (sl + 6)) : W p l e room_1 s m args below meth c H locs cl sl Q (F0 m 200 ls []) := by
  obtain ⟨hx, hb, hml, hts, hown, hK, hN, hX, hC, hA, hsc, hbl, hbA, hst, hL⟩ := h0
  refine lv_aload_n hx hb dL_law_200 rfl (lv_at hl 1 rfl) ?_
  refine lv_aload_n hx hb dL_law_201 rfl (lv_at hl 0 rfl) ?_
  refine lv_iload hx hb dL_law_202 (lv_at hl 4 rfl) ?_
  refine lv_iconst (v := nI 1) hx hb dL_law_204 (by decide +kernel) ?_
  refine lv_iadd hx hb dL_law_205 ?_
  refine k_as (nI_add _ _) ?_
  refine k_sld hx hb hsc hbl hbA hS (v := xs (i + 1)) (by omega) hL rfl dL_law_206 ?_
  refine lv_aload_n hx hb dL_law_207 rfl (lv_at hl 0 rfl) ?_
  refine lv_iload hx hb dL_law_208 (lv_at hl 4 rfl) ?_
  refine lv_iconst (v := nI 2) hx hb dL_law_210 (by decide +kernel) ?_
  refine lv_iadd hx hb dL_law_211 ?_
  refine k_as (nI_add _ _) ?_
  refine k_sld hx hb hsc hbl hbA hS (v := xs (i + 2)) (by omega) hL rfl dL_law_212 ?_
  refine lv_aload_n hx hb dL_law_213 rfl (lv_at hl 3 rfl) ?_
  refine kCallP_i (mc := 1) (ms := 6) (W1 := fun _ : Unit => wC cI cZ cO x a t b ck Ho (sT σ) (sE σ) (sD σ) (sF σ) (sS σ) (sC σ) (sL σ) (sT ρ) (sE ρ) (sD ρ) (sF ρ) (sS ρ) (sC ρ) (sL ρ) Lo Se Ef gp gi am li dl ++ [(o, .inl (cJ, 1, .inr (.inl g)))]) (fun _ _ h => h) hP hD hS hA (fun _ => rfl) (vx_runSW (As := [.ref (x 0), .int (xs (i + 1)), .int (xs (i + 2)), .ref o]) (rest := []) ⟨hx, hb, hml, hown, hts⟩ (c_L_setSetpoint_bad l hst D cI cZ cO cJ x a t b ck Ho (sT σ) (sE σ) (sD σ) (sF σ) (sS σ) (sC σ) (sL σ) (sT ρ) (sE ρ) (sD ρ) (sF ρ) (sS ρ) (sC ρ) (sL ρ) Lo Se Ef gp gi am li dl (xs (i + 1)) (xs (i + 2)) o g H.size h) (vx_cwSW (rm := rxL_setSetpoint) 4 hts gL_law_L_setSetpoint rfl rfl rfl (by decide +kernel) ⟨Nat.le_of_ble_eq_true rfl, Nat.le_of_ble_eq_true rfl⟩) (kPreSHW hK hN hX hC (pfP hP) (pfD hD) hS (kfree (pfD hD) hS hA)) rfl rfl hl.1 rfl (lv_room (Nat.le_of_ble_eq_true rfl)) dL_law_214 ⟨by show _ ≤ 653765; omega, by show _ ≤ 7134809; omega⟩) (fun r9 u H locs hr9 hP hD hS => ?_)
  subst hr9
  have hP : va_P D vwCl ((wC cI cZ cO x a t b ck Ho (sT σ) (sE σ) (sD σ) (sF σ) (sS σ) (sC σ) (sL σ) (sT ρ) (sE ρ) (sD ρ) (sF ρ) (sS ρ) (sC ρ) (sL ρ) Lo Se Ef gp gi am li dl ++ [(o, .inl (cJ, 1, .inr (.inl g)))]) ++ wM cI cZ y Lo Se Em gp gi am li dl (rK μ) (rT μ) (rE μ) (rD μ) (rF μ) (rS μ) (rC μ) Hm th) H := hP
  have hD : va_D A ((wC cI cZ cO x a t b ck Ho (sT σ) (sE σ) (sD σ) (sF σ) (sS σ) (sC σ) (sL σ) (sT ρ) (sE ρ) (sD ρ) (sF ρ) (sS ρ) (sC ρ) (sL ρ) Lo Se Ef gp gi am li dl ++ [(o, .inl (cJ, 1, .inr (.inl g)))]) ++ wM cI cZ y Lo Se Em gp gi am li dl (rK μ) (rT μ) (rE μ) (rD μ) (rF μ) (rS μ) (rC μ) Hm th) := hD
  refine lv_istore (lv' := [(5, .int (nI 1)), (0, .ref bs), (1, .ref (x 0)), (2, .ref (y 0)), (3, .ref o), (4, .int (nI i))]) hx hb dL_law_217 hl (by decide) rfl (fun ls hl => ?_)
  refine lv_aload_n hx hb dL_law_219 rfl (lv_at hl 3 rfl) ?_
  refine lv_aload_n hx hb dL_law_220 rfl (lv_at hl 1 rfl) ?_
  refine lv_iload hx hb dL_law_221 (lv_at hl 5 rfl) ?_
  refine lv_iconst (v := nI 1) hx hb dL_law_223 (by decide +kernel) ?_
  refine lv_iadd hx hb dL_law_224 ?_
  refine k_as (nI_add _ _) ?_
  refine k_sld hx hb hsc hbl hbA hS (v := xs (i + 1)) (by omega) hL rfl dL_law_225 ?_
  refine lv_aload_n hx hb dL_law_226 rfl (lv_at hl 1 rfl) ?_
  refine lv_iload hx hb dL_law_227 (lv_at hl 5 rfl) ?_
  refine lv_iconst (v := nI 2) hx hb dL_law_229 (by decide +kernel) ?_
  refine lv_iadd hx hb dL_law_230 ?_
  refine k_as (nI_add _ _) ?_
  refine k_sld hx hb hsc hbl hbA hS (v := xs (i + 2)) (by omega) hL rfl dL_law_231 ?_
  refine kCallS_i (mc := 0) (ms := 0) (W1 := fun _ : Unit => wM cI cZ y Lo Se Em gp gi am li dl (rK μ) (rT μ) (rE μ) (rD μ) (rF μ) (rS μ) (rC μ) Hm (nI 1)) (fun _ _ h => h) hP hD hS hA (fun _ => rfl) (va_runV (As := [.int (xs (i + 1)), .int (xs (i + 2))]) (rest := []) ⟨hx, hb, hml, hown, hts⟩ (c_X3_setSetpoint_bad l D cI cZ cO cJ y Lo Se Em gp gi am li dl (rK μ) (rT μ) (rE μ) (rD μ) (rF μ) (rS μ) (rC μ) Hm th (xs (i + 1)) (xs (i + 2)) H.size h) (cwV (rm := rmX3_setSetpoint) 2 hts gL_law_X3_setSetpoint rfl rfl rfl (by decide +kernel) ⟨Nat.le_of_ble_eq_true rfl, Nat.le_of_ble_eq_true rfl⟩) (kPreVW hK hN (sfP hP) (sfD hD) (va_recv hK (sfP hP) (ci := 3) (q0 := 0) rfl rfl)) rfl rfl hl.1 rfl (lv_room (Nat.le_of_ble_eq_true rfl)) dL_law_232 ⟨by show _ ≤ 653765; omega, by show _ ≤ 7134809; omega⟩) (fun r9 u2 H locs hr9 hP hD hS => ?_)
  subst hr9
  have hP : va_P D vwCl ((wC cI cZ cO x a t b ck Ho (sT σ) (sE σ) (sD σ) (sF σ) (sS σ) (sC σ) (sL σ) (sT ρ) (sE ρ) (sD ρ) (sF ρ) (sS ρ) (sC ρ) (sL ρ) Lo Se Ef gp gi am li dl ++ [(o, .inl (cJ, 1, .inr (.inl g)))]) ++ wM cI cZ y Lo Se Em gp gi am li dl (rK μ) (rT μ) (rE μ) (rD μ) (rF μ) (rS μ) (rC μ) Hm (nI 1)) H := hP
  have hD : va_D A ((wC cI cZ cO x a t b ck Ho (sT σ) (sE σ) (sD σ) (sF σ) (sS σ) (sC σ) (sL σ) (sT ρ) (sE ρ) (sD ρ) (sF ρ) (sS ρ) (sC ρ) (sL ρ) Lo Se Ef gp gi am li dl ++ [(o, .inl (cJ, 1, .inr (.inl g)))]) ++ wM cI cZ y Lo Se Em gp gi am li dl (rK μ) (rT μ) (rE μ) (rD μ) (rF μ) (rS μ) (rC μ) Hm (nI 1)) := hD
  refine lv_istore (lv' := [(6, .int (nI 0)), (5, .int (nI 1)), (0, .ref bs), (1, .ref (x 0)), (2, .ref (y 0)), (3, .ref o), (4, .int (nI i))]) hx hb dL_law_235 hl (by decide) rfl (fun ls hl => ?_)
  refine lv_aload_n hx hb dL_law_237 rfl (lv_at hl 4 rfl) ?_
  refine kCallS_i (mc := 0) (ms := 0) (W1 := fun _ : Unit => wM cI cZ y Lo Se Em gp gi am li dl (rK μ) (rT μ) (rE μ) (rD μ) (rF μ) (rS μ) (rC μ) Hm (nI 1)) (fun _ _ h => h) hP hD hS hA (fun _ => rfl) (va_runV (As := []) (rest := []) ⟨hx, hb, hml, hown, hts⟩ (c_X3_thrown l D cI cZ cO cJ y Lo Se Em gp gi am li dl (rK μ) (rT μ) (rE μ) (rD μ) (rF μ) (rS μ) (rC μ) Hm (nI 1) H.size) (cwV (rm := rmX3_thrown) 0 hts gL_law_X3_thrown rfl rfl rfl (by decide +kernel) ⟨Nat.le_of_ble_eq_true rfl, Nat.le_of_ble_eq_true rfl⟩) (kPreVW hK hN (sfP hP) (sfD hD) (va_recv hK (sfP hP) (ci := 3) (q0 := 0) rfl rfl)) rfl rfl hl.1 rfl (lv_room (Nat.le_of_ble_eq_true rfl)) dL_law_238 ⟨by show _ ≤ 653765; omega, by show _ ≤ 7134809; omega⟩) (fun r9 u3 H locs hr9 hP hD hS => ?_)
  subst hr9
  have hP : va_P D vwCl ((wC cI cZ cO x a t b ck Ho (sT σ) (sE σ) (sD σ) (sF σ) (sS σ) (sC σ) (sL σ) (sT ρ) (sE ρ) (sD ρ) (sF ρ) (sS ρ) (sC ρ) (sL ρ) Lo Se Ef gp gi am li dl ++ [(o, .inl (cJ, 1, .inr (.inl g)))]) ++ wM cI cZ y Lo Se Em gp gi am li dl (rK μ) (rT μ) (rE μ) (rD μ) (rF μ) (rS μ) (rC μ) Hm (nI 1)) H := hP
  have hD : va_D A ((wC cI cZ cO x a t b ck Ho (sT σ) (sE σ) (sD σ) (sF σ) (sS σ) (sC σ) (sL σ) (sT ρ) (sE ρ) (sD ρ) (sF ρ) (sS ρ) (sC ρ) (sL ρ) Lo Se Ef gp gi am li dl ++ [(o, .inl (cJ, 1, .inr (.inl g)))]) ++ wM cI cZ y Lo Se Em gp gi am li dl (rK μ) (rT μ) (rE μ) (rD μ) (rF μ) (rS μ) (rC μ) Hm (nI 1)) := hD
  refine lv_iload hx hb dL_law_241 (lv_at hl 1 rfl) ?_
  refine lv_icmp_eq (tgt := 248) hx hb dL_law_243 (by decide) (fun _ => ?_) (fun c9 => absurd rfl c9)
  refine lv_iload hx hb dL_law_248 (lv_at hl 1 rfl) ?_
  refine lv_if_ne (tgt := 265) hx hb dL_law_250 (by decide) (fun _ => ?_) (fun c9 => absurd c9 (by decide))
  refine lv_goto (tgt := 1234) hx hb dL_law_265 (by decide) ?_
  refine lv_iinc (v := nI (i + 4)) (lv' := [(4, .int (nI (i + 4))), (6, .int (nI 0)), (5, .int (nI 1)), (0, .ref bs), (1, .ref (x 0)), (2, .ref (y 0)), (3, .ref o)]) hx hb dL_law_1234 hl (k := 6) rfl (nI_add _ 4) (by decide) rfl (fun ls hl => ?_)
  refine lv_goto (tgt := 23) hx hb dL_law_1237 (by decide) ?_
  refine W.widen (k := cl + 1) (n := sl + 6) (by omega) (by omega) ?_
  exact kk σ ρ μ ck Ho Hm Lo Se Em Ef gp gi am li dl _ _ hI H locs hP hD hS ls (lv_sub hl [3, 4, 5, 6, 0] rfl)

set_option maxHeartbeats 4000000 in
set_option maxRecDepth 100000 in
theorem lb_setEffect_ok (f z : Nat) (v : Int32) (e1 : xs (i + 1) = nI f) (e2 : xs (i + 2) = nI z) (e3 : xs (i + 3) = v) (hf : f < 8) (hz : z < 6) (hv : inR v (nI 0) (nI 100)) (h0 : LC p l s m args c D cI cZ cO cJ bs L xs A) (hi : i + 4 ≤ L) (hcl : cl + 1 ≤ 653765) (hsl : sl + 6 ≤ 7134809) (hI : LI σ μ ck Ho Hm Lo Se Em Ef gp gi am dl) (hP : va_P D vwCl (wL cI cZ cO cJ x a t b y o σ ρ μ ck Ho Hm Lo Se Em Ef gp gi am li dl g th) H) (hD : va_D A (wL cI cZ cO cJ x a t b y o σ ρ μ ck Ho Hm Lo Se Em Ef gp gi am li dl g th)) (hS : va_S A s.heap H locs) (hl : lv_has ls 7 [(0, .ref bs), (1, .ref (x 0)), (2, .ref (y 0)), (3, .ref o), (4, .int (nI i))]) (kk : Hd p l e s m args below meth c D cI cZ cO cJ x a t b y o bs A Q (i + 4) (cl + 1) (sl + 6)) : W p l e room_1 s m args below meth c H locs cl sl Q (F0 m 268 ls []) := by
  obtain ⟨hx, hb, hml, hts, hown, hK, hN, hX, hC, hA, hsc, hbl, hbA, hst, hL⟩ := h0
  refine lv_aload_n hx hb dL_law_268 rfl (lv_at hl 1 rfl) ?_
  refine lv_aload_n hx hb dL_law_269 rfl (lv_at hl 0 rfl) ?_
  refine lv_iload hx hb dL_law_270 (lv_at hl 4 rfl) ?_
  refine lv_iconst (v := nI 1) hx hb dL_law_272 (by decide +kernel) ?_
  refine lv_iadd hx hb dL_law_273 ?_
  refine k_as (nI_add _ _) ?_
  refine k_sld hx hb hsc hbl hbA hS (v := nI f) (by omega) hL e1 dL_law_274 ?_
  refine lv_aload_n hx hb dL_law_275 rfl (lv_at hl 0 rfl) ?_
  refine lv_iload hx hb dL_law_276 (lv_at hl 4 rfl) ?_
  refine lv_iconst (v := nI 2) hx hb dL_law_278 (by decide +kernel) ?_
  refine lv_iadd hx hb dL_law_279 ?_
  refine k_as (nI_add _ _) ?_
  refine k_sld hx hb hsc hbl hbA hS (v := nI z) (by omega) hL e2 dL_law_280 ?_
  refine lv_aload_n hx hb dL_law_281 rfl (lv_at hl 0 rfl) ?_
  refine lv_iload hx hb dL_law_282 (lv_at hl 4 rfl) ?_
  refine lv_iconst (v := nI 3) hx hb dL_law_284 (by decide +kernel) ?_
  refine lv_iadd hx hb dL_law_285 ?_
  refine k_as (nI_add _ _) ?_
  refine k_sld hx hb hsc hbl hbA hS (v := v) (by omega) hL e3 dL_law_286 ?_
  refine lv_aload_n hx hb dL_law_287 rfl (lv_at hl 3 rfl) ?_
  refine kCallP_i (mc := 0) (ms := 0) (W1 := fun _ : Unit => wC cI cZ cO x a t b ck Ho (sT σ) (sE σ) (sD σ) (sF σ) (sS σ) (sC σ) (sL σ) (sT ρ) (sE ρ) (sD ρ) (sF ρ) (sS ρ) (sC ρ) (sL ρ) Lo Se (va_up Ef f (upd (Ef f) z v)) gp gi am li dl ++ [(o, .inl (cJ, 1, .inr (.inl (vp_updL g 0 ((Ef f z)).toInt64))))]) (fun _ _ h => h) hP hD hS hA (fun _ => rfl) (vx_runSW (As := [.ref (x 0), .int (nI f), .int (nI z), .int v, .ref o]) (rest := []) ⟨hx, hb, hml, hown, hts⟩ (c_L_setEffect l D cI cZ cO cJ x a t b ck Ho (sT σ) (sE σ) (sD σ) (sF σ) (sS σ) (sC σ) (sL σ) (sT ρ) (sE ρ) (sD ρ) (sF ρ) (sS ρ) (sC ρ) (sL ρ) Lo Se Ef gp gi am li dl f z v o g H.size hf hz hv.1 hv.2) (vx_cwSW (rm := rmL_setEffect) 5 hts gL_law_L_setEffect rfl rfl rfl (by decide +kernel) ⟨Nat.le_of_ble_eq_true rfl, Nat.le_of_ble_eq_true rfl⟩) (kPreSHW hK hN hX hC (pfP hP) (pfD hD) hS (kfree (pfD hD) hS hA)) rfl rfl hl.1 rfl (lv_room (Nat.le_of_ble_eq_true rfl)) dL_law_288 ⟨by show _ ≤ 653765; omega, by show _ ≤ 7134809; omega⟩) (fun r9 u H locs hr9 hP hD hS => ?_)
  subst hr9
  have hP : va_P D vwCl ((wC cI cZ cO x a t b ck Ho (sT σ) (sE σ) (sD σ) (sF σ) (sS σ) (sC σ) (sL σ) (sT ρ) (sE ρ) (sD ρ) (sF ρ) (sS ρ) (sC ρ) (sL ρ) Lo Se (va_up Ef f (upd (Ef f) z v)) gp gi am li dl ++ [(o, .inl (cJ, 1, .inr (.inl (vp_updL g 0 ((Ef f z)).toInt64))))]) ++ wM cI cZ y Lo Se Em gp gi am li dl (rK μ) (rT μ) (rE μ) (rD μ) (rF μ) (rS μ) (rC μ) Hm th) H := hP
  have hD : va_D A ((wC cI cZ cO x a t b ck Ho (sT σ) (sE σ) (sD σ) (sF σ) (sS σ) (sC σ) (sL σ) (sT ρ) (sE ρ) (sD ρ) (sF ρ) (sS ρ) (sC ρ) (sL ρ) Lo Se (va_up Ef f (upd (Ef f) z v)) gp gi am li dl ++ [(o, .inl (cJ, 1, .inr (.inl (vp_updL g 0 ((Ef f z)).toInt64))))]) ++ wM cI cZ y Lo Se Em gp gi am li dl (rK μ) (rT μ) (rE μ) (rD μ) (rF μ) (rS μ) (rC μ) Hm th) := hD
  refine lv_istore (lv' := [(5, .int (nI 0)), (0, .ref bs), (1, .ref (x 0)), (2, .ref (y 0)), (3, .ref o), (4, .int (nI i))]) hx hb dL_law_291 hl (by decide) rfl (fun ls hl => ?_)
  refine lv_aload_n hx hb dL_law_293 rfl (lv_at hl 3 rfl) ?_
  refine lv_aload_n hx hb dL_law_294 rfl (lv_at hl 1 rfl) ?_
  refine lv_iload hx hb dL_law_295 (lv_at hl 5 rfl) ?_
  refine lv_iconst (v := nI 1) hx hb dL_law_297 (by decide +kernel) ?_
  refine lv_iadd hx hb dL_law_298 ?_
  refine k_as (nI_add _ _) ?_
  refine k_sld hx hb hsc hbl hbA hS (v := nI f) (by omega) hL e1 dL_law_299 ?_
  refine lv_aload_n hx hb dL_law_300 rfl (lv_at hl 1 rfl) ?_
  refine lv_iload hx hb dL_law_301 (lv_at hl 5 rfl) ?_
  refine lv_iconst (v := nI 2) hx hb dL_law_303 (by decide +kernel) ?_
  refine lv_iadd hx hb dL_law_304 ?_
  refine k_as (nI_add _ _) ?_
  refine k_sld hx hb hsc hbl hbA hS (v := nI z) (by omega) hL e2 dL_law_305 ?_
  refine lv_aload_n hx hb dL_law_306 rfl (lv_at hl 1 rfl) ?_
  refine lv_iload hx hb dL_law_307 (lv_at hl 5 rfl) ?_
  refine lv_iconst (v := nI 3) hx hb dL_law_309 (by decide +kernel) ?_
  refine lv_iadd hx hb dL_law_310 ?_
  refine k_as (nI_add _ _) ?_
  refine k_sld hx hb hsc hbl hbA hS (v := v) (by omega) hL e3 dL_law_311 ?_
  refine kCallS_i (mc := 0) (ms := 0) (W1 := fun _ : Unit => wM cI cZ y Lo Se (upd Em (6 * f + z) v) gp gi am li dl (rK μ) (rT μ) (rE μ) (rD μ) (rF μ) (rS μ) (rC μ) Hm (nI 0)) (fun _ _ h => h) hP hD hS hA (fun _ => rfl) (va_runV (As := [.int (nI f), .int (nI z), .int v]) (rest := []) ⟨hx, hb, hml, hown, hts⟩ (c_X3_setEffect_ok l D cI cZ cO cJ y Lo Se Em gp gi am li dl (rK μ) (rT μ) (rE μ) (rD μ) (rF μ) (rS μ) (rC μ) Hm th f z v H.size hf hz hv) (cwV (rm := rmX3_setEffect) 3 hts gL_law_X3_setEffect rfl rfl rfl (by decide +kernel) ⟨Nat.le_of_ble_eq_true rfl, Nat.le_of_ble_eq_true rfl⟩) (kPreVW hK hN (sfP hP) (sfD hD) (va_recv hK (sfP hP) (ci := 3) (q0 := 0) rfl rfl)) rfl rfl hl.1 rfl (lv_room (Nat.le_of_ble_eq_true rfl)) dL_law_312 ⟨by show _ ≤ 653765; omega, by show _ ≤ 7134809; omega⟩) (fun r9 u2 H locs hr9 hP hD hS => ?_)
  subst hr9
  have hP : va_P D vwCl ((wC cI cZ cO x a t b ck Ho (sT σ) (sE σ) (sD σ) (sF σ) (sS σ) (sC σ) (sL σ) (sT ρ) (sE ρ) (sD ρ) (sF ρ) (sS ρ) (sC ρ) (sL ρ) Lo Se (va_up Ef f (upd (Ef f) z v)) gp gi am li dl ++ [(o, .inl (cJ, 1, .inr (.inl (vp_updL g 0 ((Ef f z)).toInt64))))]) ++ wM cI cZ y Lo Se (upd Em (6 * f + z) v) gp gi am li dl (rK μ) (rT μ) (rE μ) (rD μ) (rF μ) (rS μ) (rC μ) Hm (nI 0)) H := hP
  have hD : va_D A ((wC cI cZ cO x a t b ck Ho (sT σ) (sE σ) (sD σ) (sF σ) (sS σ) (sC σ) (sL σ) (sT ρ) (sE ρ) (sD ρ) (sF ρ) (sS ρ) (sC ρ) (sL ρ) Lo Se (va_up Ef f (upd (Ef f) z v)) gp gi am li dl ++ [(o, .inl (cJ, 1, .inr (.inl (vp_updL g 0 ((Ef f z)).toInt64))))]) ++ wM cI cZ y Lo Se (upd Em (6 * f + z) v) gp gi am li dl (rK μ) (rT μ) (rE μ) (rD μ) (rF μ) (rS μ) (rC μ) Hm (nI 0)) := hD
  refine lv_istore (lv' := [(6, .int (Em (6 * f + z))), (5, .int (nI 0)), (0, .ref bs), (1, .ref (x 0)), (2, .ref (y 0)), (3, .ref o), (4, .int (nI i))]) hx hb dL_law_315 hl (by decide) rfl (fun ls hl => ?_)
  refine lv_aload_n hx hb dL_law_317 rfl (lv_at hl 4 rfl) ?_
  refine kCallS_i (mc := 0) (ms := 0) (W1 := fun _ : Unit => wM cI cZ y Lo Se (upd Em (6 * f + z) v) gp gi am li dl (rK μ) (rT μ) (rE μ) (rD μ) (rF μ) (rS μ) (rC μ) Hm (nI 0)) (fun _ _ h => h) hP hD hS hA (fun _ => rfl) (va_runV (As := []) (rest := []) ⟨hx, hb, hml, hown, hts⟩ (c_X3_thrown l D cI cZ cO cJ y Lo Se (upd Em (6 * f + z) v) gp gi am li dl (rK μ) (rT μ) (rE μ) (rD μ) (rF μ) (rS μ) (rC μ) Hm (nI 0) H.size) (cwV (rm := rmX3_thrown) 0 hts gL_law_X3_thrown rfl rfl rfl (by decide +kernel) ⟨Nat.le_of_ble_eq_true rfl, Nat.le_of_ble_eq_true rfl⟩) (kPreVW hK hN (sfP hP) (sfD hD) (va_recv hK (sfP hP) (ci := 3) (q0 := 0) rfl rfl)) rfl rfl hl.1 rfl (lv_room (Nat.le_of_ble_eq_true rfl)) dL_law_318 ⟨by show _ ≤ 653765; omega, by show _ ≤ 7134809; omega⟩) (fun r9 u3 H locs hr9 hP hD hS => ?_)
  subst hr9
  have hP : va_P D vwCl ((wC cI cZ cO x a t b ck Ho (sT σ) (sE σ) (sD σ) (sF σ) (sS σ) (sC σ) (sL σ) (sT ρ) (sE ρ) (sD ρ) (sF ρ) (sS ρ) (sC ρ) (sL ρ) Lo Se (va_up Ef f (upd (Ef f) z v)) gp gi am li dl ++ [(o, .inl (cJ, 1, .inr (.inl (vp_updL g 0 ((Ef f z)).toInt64))))]) ++ wM cI cZ y Lo Se (upd Em (6 * f + z) v) gp gi am li dl (rK μ) (rT μ) (rE μ) (rD μ) (rF μ) (rS μ) (rC μ) Hm (nI 0)) H := hP
  have hD : va_D A ((wC cI cZ cO x a t b ck Ho (sT σ) (sE σ) (sD σ) (sF σ) (sS σ) (sC σ) (sL σ) (sT ρ) (sE ρ) (sD ρ) (sF ρ) (sS ρ) (sC ρ) (sL ρ) Lo Se (va_up Ef f (upd (Ef f) z v)) gp gi am li dl ++ [(o, .inl (cJ, 1, .inr (.inl (vp_updL g 0 ((Ef f z)).toInt64))))]) ++ wM cI cZ y Lo Se (upd Em (6 * f + z) v) gp gi am li dl (rK μ) (rT μ) (rE μ) (rD μ) (rF μ) (rS μ) (rC μ) Hm (nI 0)) := hD
  refine lv_iload hx hb dL_law_321 (lv_at hl 1 rfl) ?_
  refine lv_icmp_eq (tgt := 328) hx hb dL_law_323 (by decide) (fun _ => ?_) (fun c9 => absurd rfl c9)
  refine lv_iload hx hb dL_law_328 (lv_at hl 1 rfl) ?_
  refine lv_if_ne (tgt := 345) hx hb dL_law_330 (by decide) (fun c9 => absurd rfl c9) (fun _ => ?_)
  refine lv_aload_n hx hb dL_law_333 rfl (lv_at hl 5 rfl) ?_
  refine lv_iconst (v := nI 0) hx hb dL_law_334 (by decide +kernel) ?_
  refine k_laldS hx hb hK 3 rfl hP dL_law_335 ?_
  refine lv_iload hx hb dL_law_336 (lv_at hl 0 rfl) ?_
  refine lv_i2l hx hb dL_law_338 rfl ?_
  refine k_lcmp0 (pk_uLs.trans (congrArg Int32.toInt64 (hI.2.1.2.2.2.2.2.2.2 f z hf hz).symm)) hx hb dL_law_339 ?_
  refine lv_if_eq (tgt := 345) hx hb dL_law_340 (by decide) (fun _ => ?_) (fun c9 => absurd rfl c9)
  refine lv_goto (tgt := 1234) hx hb dL_law_345 (by decide) ?_
  refine lv_iinc (v := nI (i + 4)) (lv' := [(4, .int (nI (i + 4))), (6, .int (Em (6 * f + z))), (5, .int (nI 0)), (0, .ref bs), (1, .ref (x 0)), (2, .ref (y 0)), (3, .ref o)]) hx hb dL_law_1234 hl (k := 6) rfl (nI_add _ 4) (by decide) rfl (fun ls hl => ?_)
  refine lv_goto (tgt := 23) hx hb dL_law_1237 (by decide) ?_
  refine W.widen (k := cl + 1) (n := sl + 6) (by omega) (by omega) ?_
  exact kk σ ρ μ ck Ho Hm Lo Se (upd Em (6 * f + z) v) (va_up Ef f (upd (Ef f) z v)) gp gi am li dl _ _ (LI_eff hz hI hv) H locs hP hD hS ls (lv_sub hl [3, 4, 5, 6, 0] rfl)

set_option maxHeartbeats 4000000 in
set_option maxRecDepth 100000 in
theorem lb_setEffect_bad (h : ¬ (inR (xs (i + 1)) (nI 0) (nI 7) ∧ inR (xs (i + 2)) (nI 0) (nI 5) ∧ inR (xs (i + 3)) (nI 0) (nI 100))) (h0 : LC p l s m args c D cI cZ cO cJ bs L xs A) (hi : i + 4 ≤ L) (hcl : cl + 1 ≤ 653765) (hsl : sl + 6 ≤ 7134809) (hI : LI σ μ ck Ho Hm Lo Se Em Ef gp gi am dl) (hP : va_P D vwCl (wL cI cZ cO cJ x a t b y o σ ρ μ ck Ho Hm Lo Se Em Ef gp gi am li dl g th) H) (hD : va_D A (wL cI cZ cO cJ x a t b y o σ ρ μ ck Ho Hm Lo Se Em Ef gp gi am li dl g th)) (hS : va_S A s.heap H locs) (hl : lv_has ls 7 [(0, .ref bs), (1, .ref (x 0)), (2, .ref (y 0)), (3, .ref o), (4, .int (nI i))]) (kk : Hd p l e s m args below meth c D cI cZ cO cJ x a t b y o bs A Q (i + 4) (cl + 1) (sl + 6)) : W p l e room_1 s m args below meth c H locs cl sl Q (F0 m 268 ls []) := by
  obtain ⟨hx, hb, hml, hts, hown, hK, hN, hX, hC, hA, hsc, hbl, hbA, hst, hL⟩ := h0
  refine lv_aload_n hx hb dL_law_268 rfl (lv_at hl 1 rfl) ?_
  refine lv_aload_n hx hb dL_law_269 rfl (lv_at hl 0 rfl) ?_
  refine lv_iload hx hb dL_law_270 (lv_at hl 4 rfl) ?_
  refine lv_iconst (v := nI 1) hx hb dL_law_272 (by decide +kernel) ?_
  refine lv_iadd hx hb dL_law_273 ?_
  refine k_as (nI_add _ _) ?_
  refine k_sld hx hb hsc hbl hbA hS (v := xs (i + 1)) (by omega) hL rfl dL_law_274 ?_
  refine lv_aload_n hx hb dL_law_275 rfl (lv_at hl 0 rfl) ?_
  refine lv_iload hx hb dL_law_276 (lv_at hl 4 rfl) ?_
  refine lv_iconst (v := nI 2) hx hb dL_law_278 (by decide +kernel) ?_
  refine lv_iadd hx hb dL_law_279 ?_
  refine k_as (nI_add _ _) ?_
  refine k_sld hx hb hsc hbl hbA hS (v := xs (i + 2)) (by omega) hL rfl dL_law_280 ?_
  refine lv_aload_n hx hb dL_law_281 rfl (lv_at hl 0 rfl) ?_
  refine lv_iload hx hb dL_law_282 (lv_at hl 4 rfl) ?_
  refine lv_iconst (v := nI 3) hx hb dL_law_284 (by decide +kernel) ?_
  refine lv_iadd hx hb dL_law_285 ?_
  refine k_as (nI_add _ _) ?_
  refine k_sld hx hb hsc hbl hbA hS (v := xs (i + 3)) (by omega) hL rfl dL_law_286 ?_
  refine lv_aload_n hx hb dL_law_287 rfl (lv_at hl 3 rfl) ?_
  refine kCallP_i (mc := 1) (ms := 6) (W1 := fun _ : Unit => wC cI cZ cO x a t b ck Ho (sT σ) (sE σ) (sD σ) (sF σ) (sS σ) (sC σ) (sL σ) (sT ρ) (sE ρ) (sD ρ) (sF ρ) (sS ρ) (sC ρ) (sL ρ) Lo Se Ef gp gi am li dl ++ [(o, .inl (cJ, 1, .inr (.inl g)))]) (fun _ _ h => h) hP hD hS hA (fun _ => rfl) (vx_runSW (As := [.ref (x 0), .int (xs (i + 1)), .int (xs (i + 2)), .int (xs (i + 3)), .ref o]) (rest := []) ⟨hx, hb, hml, hown, hts⟩ (c_L_setEffect_bad l hst D cI cZ cO cJ x a t b ck Ho (sT σ) (sE σ) (sD σ) (sF σ) (sS σ) (sC σ) (sL σ) (sT ρ) (sE ρ) (sD ρ) (sF ρ) (sS ρ) (sC ρ) (sL ρ) Lo Se Ef gp gi am li dl (xs (i + 1)) (xs (i + 2)) (xs (i + 3)) o g H.size h) (vx_cwSW (rm := rxL_setEffect) 5 hts gL_law_L_setEffect rfl rfl rfl (by decide +kernel) ⟨Nat.le_of_ble_eq_true rfl, Nat.le_of_ble_eq_true rfl⟩) (kPreSHW hK hN hX hC (pfP hP) (pfD hD) hS (kfree (pfD hD) hS hA)) rfl rfl hl.1 rfl (lv_room (Nat.le_of_ble_eq_true rfl)) dL_law_288 ⟨by show _ ≤ 653765; omega, by show _ ≤ 7134809; omega⟩) (fun r9 u H locs hr9 hP hD hS => ?_)
  subst hr9
  have hP : va_P D vwCl ((wC cI cZ cO x a t b ck Ho (sT σ) (sE σ) (sD σ) (sF σ) (sS σ) (sC σ) (sL σ) (sT ρ) (sE ρ) (sD ρ) (sF ρ) (sS ρ) (sC ρ) (sL ρ) Lo Se Ef gp gi am li dl ++ [(o, .inl (cJ, 1, .inr (.inl g)))]) ++ wM cI cZ y Lo Se Em gp gi am li dl (rK μ) (rT μ) (rE μ) (rD μ) (rF μ) (rS μ) (rC μ) Hm th) H := hP
  have hD : va_D A ((wC cI cZ cO x a t b ck Ho (sT σ) (sE σ) (sD σ) (sF σ) (sS σ) (sC σ) (sL σ) (sT ρ) (sE ρ) (sD ρ) (sF ρ) (sS ρ) (sC ρ) (sL ρ) Lo Se Ef gp gi am li dl ++ [(o, .inl (cJ, 1, .inr (.inl g)))]) ++ wM cI cZ y Lo Se Em gp gi am li dl (rK μ) (rT μ) (rE μ) (rD μ) (rF μ) (rS μ) (rC μ) Hm th) := hD
  refine lv_istore (lv' := [(5, .int (nI 1)), (0, .ref bs), (1, .ref (x 0)), (2, .ref (y 0)), (3, .ref o), (4, .int (nI i))]) hx hb dL_law_291 hl (by decide) rfl (fun ls hl => ?_)
  refine lv_aload_n hx hb dL_law_293 rfl (lv_at hl 3 rfl) ?_
  refine lv_aload_n hx hb dL_law_294 rfl (lv_at hl 1 rfl) ?_
  refine lv_iload hx hb dL_law_295 (lv_at hl 5 rfl) ?_
  refine lv_iconst (v := nI 1) hx hb dL_law_297 (by decide +kernel) ?_
  refine lv_iadd hx hb dL_law_298 ?_
  refine k_as (nI_add _ _) ?_
  refine k_sld hx hb hsc hbl hbA hS (v := xs (i + 1)) (by omega) hL rfl dL_law_299 ?_
  refine lv_aload_n hx hb dL_law_300 rfl (lv_at hl 1 rfl) ?_
  refine lv_iload hx hb dL_law_301 (lv_at hl 5 rfl) ?_
  refine lv_iconst (v := nI 2) hx hb dL_law_303 (by decide +kernel) ?_
  refine lv_iadd hx hb dL_law_304 ?_
  refine k_as (nI_add _ _) ?_
  refine k_sld hx hb hsc hbl hbA hS (v := xs (i + 2)) (by omega) hL rfl dL_law_305 ?_
  refine lv_aload_n hx hb dL_law_306 rfl (lv_at hl 1 rfl) ?_
  refine lv_iload hx hb dL_law_307 (lv_at hl 5 rfl) ?_
  refine lv_iconst (v := nI 3) hx hb dL_law_309 (by decide +kernel) ?_
  refine lv_iadd hx hb dL_law_310 ?_
  refine k_as (nI_add _ _) ?_
  refine k_sld hx hb hsc hbl hbA hS (v := xs (i + 3)) (by omega) hL rfl dL_law_311 ?_
  refine kCallS_i (mc := 0) (ms := 0) (W1 := fun _ : Unit => wM cI cZ y Lo Se Em gp gi am li dl (rK μ) (rT μ) (rE μ) (rD μ) (rF μ) (rS μ) (rC μ) Hm (nI 1)) (fun _ _ h => h) hP hD hS hA (fun _ => rfl) (va_runV (As := [.int (xs (i + 1)), .int (xs (i + 2)), .int (xs (i + 3))]) (rest := []) ⟨hx, hb, hml, hown, hts⟩ (c_X3_setEffect_bad l D cI cZ cO cJ y Lo Se Em gp gi am li dl (rK μ) (rT μ) (rE μ) (rD μ) (rF μ) (rS μ) (rC μ) Hm th (xs (i + 1)) (xs (i + 2)) (xs (i + 3)) H.size h) (cwV (rm := rmX3_setEffect) 3 hts gL_law_X3_setEffect rfl rfl rfl (by decide +kernel) ⟨Nat.le_of_ble_eq_true rfl, Nat.le_of_ble_eq_true rfl⟩) (kPreVW hK hN (sfP hP) (sfD hD) (va_recv hK (sfP hP) (ci := 3) (q0 := 0) rfl rfl)) rfl rfl hl.1 rfl (lv_room (Nat.le_of_ble_eq_true rfl)) dL_law_312 ⟨by show _ ≤ 653765; omega, by show _ ≤ 7134809; omega⟩) (fun r9 u2 H locs hr9 hP hD hS => ?_)
  subst hr9
  have hP : va_P D vwCl ((wC cI cZ cO x a t b ck Ho (sT σ) (sE σ) (sD σ) (sF σ) (sS σ) (sC σ) (sL σ) (sT ρ) (sE ρ) (sD ρ) (sF ρ) (sS ρ) (sC ρ) (sL ρ) Lo Se Ef gp gi am li dl ++ [(o, .inl (cJ, 1, .inr (.inl g)))]) ++ wM cI cZ y Lo Se Em gp gi am li dl (rK μ) (rT μ) (rE μ) (rD μ) (rF μ) (rS μ) (rC μ) Hm (nI 1)) H := hP
  have hD : va_D A ((wC cI cZ cO x a t b ck Ho (sT σ) (sE σ) (sD σ) (sF σ) (sS σ) (sC σ) (sL σ) (sT ρ) (sE ρ) (sD ρ) (sF ρ) (sS ρ) (sC ρ) (sL ρ) Lo Se Ef gp gi am li dl ++ [(o, .inl (cJ, 1, .inr (.inl g)))]) ++ wM cI cZ y Lo Se Em gp gi am li dl (rK μ) (rT μ) (rE μ) (rD μ) (rF μ) (rS μ) (rC μ) Hm (nI 1)) := hD
  refine lv_istore (lv' := [(6, .int (nI 0)), (5, .int (nI 1)), (0, .ref bs), (1, .ref (x 0)), (2, .ref (y 0)), (3, .ref o), (4, .int (nI i))]) hx hb dL_law_315 hl (by decide) rfl (fun ls hl => ?_)
  refine lv_aload_n hx hb dL_law_317 rfl (lv_at hl 4 rfl) ?_
  refine kCallS_i (mc := 0) (ms := 0) (W1 := fun _ : Unit => wM cI cZ y Lo Se Em gp gi am li dl (rK μ) (rT μ) (rE μ) (rD μ) (rF μ) (rS μ) (rC μ) Hm (nI 1)) (fun _ _ h => h) hP hD hS hA (fun _ => rfl) (va_runV (As := []) (rest := []) ⟨hx, hb, hml, hown, hts⟩ (c_X3_thrown l D cI cZ cO cJ y Lo Se Em gp gi am li dl (rK μ) (rT μ) (rE μ) (rD μ) (rF μ) (rS μ) (rC μ) Hm (nI 1) H.size) (cwV (rm := rmX3_thrown) 0 hts gL_law_X3_thrown rfl rfl rfl (by decide +kernel) ⟨Nat.le_of_ble_eq_true rfl, Nat.le_of_ble_eq_true rfl⟩) (kPreVW hK hN (sfP hP) (sfD hD) (va_recv hK (sfP hP) (ci := 3) (q0 := 0) rfl rfl)) rfl rfl hl.1 rfl (lv_room (Nat.le_of_ble_eq_true rfl)) dL_law_318 ⟨by show _ ≤ 653765; omega, by show _ ≤ 7134809; omega⟩) (fun r9 u3 H locs hr9 hP hD hS => ?_)
  subst hr9
  have hP : va_P D vwCl ((wC cI cZ cO x a t b ck Ho (sT σ) (sE σ) (sD σ) (sF σ) (sS σ) (sC σ) (sL σ) (sT ρ) (sE ρ) (sD ρ) (sF ρ) (sS ρ) (sC ρ) (sL ρ) Lo Se Ef gp gi am li dl ++ [(o, .inl (cJ, 1, .inr (.inl g)))]) ++ wM cI cZ y Lo Se Em gp gi am li dl (rK μ) (rT μ) (rE μ) (rD μ) (rF μ) (rS μ) (rC μ) Hm (nI 1)) H := hP
  have hD : va_D A ((wC cI cZ cO x a t b ck Ho (sT σ) (sE σ) (sD σ) (sF σ) (sS σ) (sC σ) (sL σ) (sT ρ) (sE ρ) (sD ρ) (sF ρ) (sS ρ) (sC ρ) (sL ρ) Lo Se Ef gp gi am li dl ++ [(o, .inl (cJ, 1, .inr (.inl g)))]) ++ wM cI cZ y Lo Se Em gp gi am li dl (rK μ) (rT μ) (rE μ) (rD μ) (rF μ) (rS μ) (rC μ) Hm (nI 1)) := hD
  refine lv_iload hx hb dL_law_321 (lv_at hl 1 rfl) ?_
  refine lv_icmp_eq (tgt := 328) hx hb dL_law_323 (by decide) (fun _ => ?_) (fun c9 => absurd rfl c9)
  refine lv_iload hx hb dL_law_328 (lv_at hl 1 rfl) ?_
  refine lv_if_ne (tgt := 345) hx hb dL_law_330 (by decide) (fun _ => ?_) (fun c9 => absurd c9 (by decide))
  refine lv_goto (tgt := 1234) hx hb dL_law_345 (by decide) ?_
  refine lv_iinc (v := nI (i + 4)) (lv' := [(4, .int (nI (i + 4))), (6, .int (nI 0)), (5, .int (nI 1)), (0, .ref bs), (1, .ref (x 0)), (2, .ref (y 0)), (3, .ref o)]) hx hb dL_law_1234 hl (k := 6) rfl (nI_add _ 4) (by decide) rfl (fun ls hl => ?_)
  refine lv_goto (tgt := 23) hx hb dL_law_1237 (by decide) ?_
  refine W.widen (k := cl + 1) (n := sl + 6) (by omega) (by omega) ?_
  exact kk σ ρ μ ck Ho Hm Lo Se Em Ef gp gi am li dl _ _ hI H locs hP hD hS ls (lv_sub hl [3, 4, 5, 6, 0] rfl)

set_option maxHeartbeats 4000000 in
set_option maxRecDepth 100000 in
theorem lb_setGains_ok (v w : Int32) (e1 : xs (i + 1) = v) (e2 : xs (i + 2) = w) (hv : inR v (nI 0) (nI 200)) (hw : inR w (nI 0) (nI 200)) (h0 : LC p l s m args c D cI cZ cO cJ bs L xs A) (hi : i + 4 ≤ L) (hcl : cl + 1 ≤ 653765) (hsl : sl + 6 ≤ 7134809) (hI : LI σ μ ck Ho Hm Lo Se Em Ef gp gi am dl) (hP : va_P D vwCl (wL cI cZ cO cJ x a t b y o σ ρ μ ck Ho Hm Lo Se Em Ef gp gi am li dl g th) H) (hD : va_D A (wL cI cZ cO cJ x a t b y o σ ρ μ ck Ho Hm Lo Se Em Ef gp gi am li dl g th)) (hS : va_S A s.heap H locs) (hl : lv_has ls 7 [(0, .ref bs), (1, .ref (x 0)), (2, .ref (y 0)), (3, .ref o), (4, .int (nI i))]) (kk : Hd p l e s m args below meth c D cI cZ cO cJ x a t b y o bs A Q (i + 4) (cl + 1) (sl + 6)) : W p l e room_1 s m args below meth c H locs cl sl Q (F0 m 348 ls []) := by
  obtain ⟨hx, hb, hml, hts, hown, hK, hN, hX, hC, hA, hsc, hbl, hbA, hst, hL⟩ := h0
  refine lv_aload_n hx hb dL_law_348 rfl (lv_at hl 1 rfl) ?_
  refine lv_aload_n hx hb dL_law_349 rfl (lv_at hl 0 rfl) ?_
  refine lv_iload hx hb dL_law_350 (lv_at hl 4 rfl) ?_
  refine lv_iconst (v := nI 1) hx hb dL_law_352 (by decide +kernel) ?_
  refine lv_iadd hx hb dL_law_353 ?_
  refine k_as (nI_add _ _) ?_
  refine k_sld hx hb hsc hbl hbA hS (v := v) (by omega) hL e1 dL_law_354 ?_
  refine lv_aload_n hx hb dL_law_355 rfl (lv_at hl 0 rfl) ?_
  refine lv_iload hx hb dL_law_356 (lv_at hl 4 rfl) ?_
  refine lv_iconst (v := nI 2) hx hb dL_law_358 (by decide +kernel) ?_
  refine lv_iadd hx hb dL_law_359 ?_
  refine k_as (nI_add _ _) ?_
  refine k_sld hx hb hsc hbl hbA hS (v := w) (by omega) hL e2 dL_law_360 ?_
  rw [show wL cI cZ cO cJ x a t b y o σ ρ μ ck Ho Hm Lo Se Em Ef gp gi am li dl g th = _ from List.append_assoc _ _ _] at hP hD
  refine kCallP_i (mc := 0) (ms := 0) (W1 := fun _ : Unit => wC cI cZ cO x a t b ck Ho (sT σ) (sE σ) (sD σ) (sF σ) (sS σ) (sC σ) (sL σ) (sT ρ) (sE ρ) (sD ρ) (sF ρ) (sS ρ) (sC ρ) (sL ρ) Lo Se Ef v w am li dl) (fun _ _ h => h) hP hD hS hA (fun _ => rfl) (vx_runSW (As := [.ref (x 0), .int v, .int w]) (rest := []) ⟨hx, hb, hml, hown, hts⟩ (c_L_setGains l D cI cZ cO cJ x a t b ck Ho (sT σ) (sE σ) (sD σ) (sF σ) (sS σ) (sC σ) (sL σ) (sT ρ) (sE ρ) (sD ρ) (sF ρ) (sS ρ) (sC ρ) (sL ρ) Lo Se Ef gp gi am li dl v w H.size hv.1 hv.2 hw.1 hw.2) (vx_cwSW (rm := rmL_setGains) 3 hts gL_law_L_setGains rfl rfl rfl (by decide +kernel) ⟨Nat.le_of_ble_eq_true rfl, Nat.le_of_ble_eq_true rfl⟩) (kPreSHW hK hN hX hC (pfP hP) (pfD hD) hS (kfree (pfD hD) hS hA)) rfl rfl hl.1 rfl (lv_room (Nat.le_of_ble_eq_true rfl)) dL_law_361 ⟨by show _ ≤ 653765; omega, by show _ ≤ 7134809; omega⟩) (fun r9 u H locs hr9 hP hD hS => ?_)
  subst hr9
  rw [← List.append_assoc] at hP hD
  have hP : va_P D vwCl (((wC cI cZ cO x a t b ck Ho (sT σ) (sE σ) (sD σ) (sF σ) (sS σ) (sC σ) (sL σ) (sT ρ) (sE ρ) (sD ρ) (sF ρ) (sS ρ) (sC ρ) (sL ρ) Lo Se Ef v w am li dl ++ [(o, .inl (cJ, 1, .inr (.inl g)))])) ++ wM cI cZ y Lo Se Em gp gi am li dl (rK μ) (rT μ) (rE μ) (rD μ) (rF μ) (rS μ) (rC μ) Hm th) H := hP
  have hD : va_D A (((wC cI cZ cO x a t b ck Ho (sT σ) (sE σ) (sD σ) (sF σ) (sS σ) (sC σ) (sL σ) (sT ρ) (sE ρ) (sD ρ) (sF ρ) (sS ρ) (sC ρ) (sL ρ) Lo Se Ef v w am li dl ++ [(o, .inl (cJ, 1, .inr (.inl g)))])) ++ wM cI cZ y Lo Se Em gp gi am li dl (rK μ) (rT μ) (rE μ) (rD μ) (rF μ) (rS μ) (rC μ) Hm th) := hD
  refine lv_istore (lv' := [(5, .int (nI 0)), (0, .ref bs), (1, .ref (x 0)), (2, .ref (y 0)), (3, .ref o), (4, .int (nI i))]) hx hb dL_law_364 hl (by decide) rfl (fun ls hl => ?_)
  refine lv_aload_n hx hb dL_law_366 rfl (lv_at hl 3 rfl) ?_
  refine lv_aload_n hx hb dL_law_367 rfl (lv_at hl 1 rfl) ?_
  refine lv_iload hx hb dL_law_368 (lv_at hl 5 rfl) ?_
  refine lv_iconst (v := nI 1) hx hb dL_law_370 (by decide +kernel) ?_
  refine lv_iadd hx hb dL_law_371 ?_
  refine k_as (nI_add _ _) ?_
  refine k_sld hx hb hsc hbl hbA hS (v := v) (by omega) hL e1 dL_law_372 ?_
  refine lv_aload_n hx hb dL_law_373 rfl (lv_at hl 1 rfl) ?_
  refine lv_iload hx hb dL_law_374 (lv_at hl 5 rfl) ?_
  refine lv_iconst (v := nI 2) hx hb dL_law_376 (by decide +kernel) ?_
  refine lv_iadd hx hb dL_law_377 ?_
  refine k_as (nI_add _ _) ?_
  refine k_sld hx hb hsc hbl hbA hS (v := w) (by omega) hL e2 dL_law_378 ?_
  refine kCallS_v (mc := 0) (ms := 0) (W1 := fun _ : Unit => wM cI cZ y Lo Se Em v w am li dl (rK μ) (rT μ) (rE μ) (rD μ) (rF μ) (rS μ) (rC μ) Hm (nI 0)) (fun _ _ h => h) hP hD hS hA (fun _ => rfl) (va_runV (As := [.int v, .int w]) (rest := []) ⟨hx, hb, hml, hown, hts⟩ (c_X3_setGains_ok l D cI cZ cO cJ y Lo Se Em gp gi am li dl (rK μ) (rT μ) (rE μ) (rD μ) (rF μ) (rS μ) (rC μ) Hm th v w H.size hv hw) (cwV (rm := rmX3_setGains) 2 hts gL_law_X3_setGains rfl rfl rfl (by decide +kernel) ⟨Nat.le_of_ble_eq_true rfl, Nat.le_of_ble_eq_true rfl⟩) (kPreVW hK hN (sfP hP) (sfD hD) (va_recv hK (sfP hP) (ci := 3) (q0 := 0) rfl rfl)) rfl rfl hl.1 rfl (lv_room (Nat.le_of_ble_eq_true rfl)) dL_law_379 ⟨by show _ ≤ 653765; omega, by show _ ≤ 7134809; omega⟩) (fun u2 H locs hr9 hP hD hS => ?_)
  have hP : va_P D vwCl (((wC cI cZ cO x a t b ck Ho (sT σ) (sE σ) (sD σ) (sF σ) (sS σ) (sC σ) (sL σ) (sT ρ) (sE ρ) (sD ρ) (sF ρ) (sS ρ) (sC ρ) (sL ρ) Lo Se Ef v w am li dl ++ [(o, .inl (cJ, 1, .inr (.inl g)))])) ++ wM cI cZ y Lo Se Em v w am li dl (rK μ) (rT μ) (rE μ) (rD μ) (rF μ) (rS μ) (rC μ) Hm (nI 0)) H := hP
  have hD : va_D A (((wC cI cZ cO x a t b ck Ho (sT σ) (sE σ) (sD σ) (sF σ) (sS σ) (sC σ) (sL σ) (sT ρ) (sE ρ) (sD ρ) (sF ρ) (sS ρ) (sC ρ) (sL ρ) Lo Se Ef v w am li dl ++ [(o, .inl (cJ, 1, .inr (.inl g)))])) ++ wM cI cZ y Lo Se Em v w am li dl (rK μ) (rT μ) (rE μ) (rD μ) (rF μ) (rS μ) (rC μ) Hm (nI 0)) := hD
  refine lv_aload_n hx hb dL_law_382 rfl (lv_at hl 3 rfl) ?_
  refine kCallS_i (mc := 0) (ms := 0) (W1 := fun _ : Unit => wM cI cZ y Lo Se Em v w am li dl (rK μ) (rT μ) (rE μ) (rD μ) (rF μ) (rS μ) (rC μ) Hm (nI 0)) (fun _ _ h => h) hP hD hS hA (fun _ => rfl) (va_runV (As := []) (rest := []) ⟨hx, hb, hml, hown, hts⟩ (c_X3_thrown l D cI cZ cO cJ y Lo Se Em v w am li dl (rK μ) (rT μ) (rE μ) (rD μ) (rF μ) (rS μ) (rC μ) Hm (nI 0) H.size) (cwV (rm := rmX3_thrown) 0 hts gL_law_X3_thrown rfl rfl rfl (by decide +kernel) ⟨Nat.le_of_ble_eq_true rfl, Nat.le_of_ble_eq_true rfl⟩) (kPreVW hK hN (sfP hP) (sfD hD) (va_recv hK (sfP hP) (ci := 3) (q0 := 0) rfl rfl)) rfl rfl hl.1 rfl (lv_room (Nat.le_of_ble_eq_true rfl)) dL_law_383 ⟨by show _ ≤ 653765; omega, by show _ ≤ 7134809; omega⟩) (fun r9 u3 H locs hr9 hP hD hS => ?_)
  subst hr9
  have hP : va_P D vwCl (((wC cI cZ cO x a t b ck Ho (sT σ) (sE σ) (sD σ) (sF σ) (sS σ) (sC σ) (sL σ) (sT ρ) (sE ρ) (sD ρ) (sF ρ) (sS ρ) (sC ρ) (sL ρ) Lo Se Ef v w am li dl ++ [(o, .inl (cJ, 1, .inr (.inl g)))])) ++ wM cI cZ y Lo Se Em v w am li dl (rK μ) (rT μ) (rE μ) (rD μ) (rF μ) (rS μ) (rC μ) Hm (nI 0)) H := hP
  have hD : va_D A (((wC cI cZ cO x a t b ck Ho (sT σ) (sE σ) (sD σ) (sF σ) (sS σ) (sC σ) (sL σ) (sT ρ) (sE ρ) (sD ρ) (sF ρ) (sS ρ) (sC ρ) (sL ρ) Lo Se Ef v w am li dl ++ [(o, .inl (cJ, 1, .inr (.inl g)))])) ++ wM cI cZ y Lo Se Em v w am li dl (rK μ) (rT μ) (rE μ) (rD μ) (rF μ) (rS μ) (rC μ) Hm (nI 0)) := hD
  refine lv_iload hx hb dL_law_386 (lv_at hl 0 rfl) ?_
  refine lv_icmp_eq (tgt := 393) hx hb dL_law_388 (by decide) (fun _ => ?_) (fun c9 => absurd rfl c9)
  refine lv_goto (tgt := 1234) hx hb dL_law_393 (by decide) ?_
  refine lv_iinc (v := nI (i + 4)) (lv' := [(4, .int (nI (i + 4))), (5, .int (nI 0)), (0, .ref bs), (1, .ref (x 0)), (2, .ref (y 0)), (3, .ref o)]) hx hb dL_law_1234 hl (k := 5) rfl (nI_add _ 4) (by decide) rfl (fun ls hl => ?_)
  refine lv_goto (tgt := 23) hx hb dL_law_1237 (by decide) ?_
  refine W.widen (k := cl + 1) (n := sl + 6) (by omega) (by omega) ?_
  exact kk σ ρ μ ck Ho Hm Lo Se Em Ef v w am li dl _ _ (LI_gains hI hv hw) H locs hP hD hS ls (lv_sub hl [2, 3, 4, 5, 0] rfl)

set_option maxHeartbeats 4000000 in
set_option maxRecDepth 100000 in
theorem lb_setGains_bad (h : ¬ (inR (xs (i + 1)) (nI 0) (nI 200) ∧ inR (xs (i + 2)) (nI 0) (nI 200))) (h0 : LC p l s m args c D cI cZ cO cJ bs L xs A) (hi : i + 4 ≤ L) (hcl : cl + 1 ≤ 653765) (hsl : sl + 6 ≤ 7134809) (hI : LI σ μ ck Ho Hm Lo Se Em Ef gp gi am dl) (hP : va_P D vwCl (wL cI cZ cO cJ x a t b y o σ ρ μ ck Ho Hm Lo Se Em Ef gp gi am li dl g th) H) (hD : va_D A (wL cI cZ cO cJ x a t b y o σ ρ μ ck Ho Hm Lo Se Em Ef gp gi am li dl g th)) (hS : va_S A s.heap H locs) (hl : lv_has ls 7 [(0, .ref bs), (1, .ref (x 0)), (2, .ref (y 0)), (3, .ref o), (4, .int (nI i))]) (kk : Hd p l e s m args below meth c D cI cZ cO cJ x a t b y o bs A Q (i + 4) (cl + 1) (sl + 6)) : W p l e room_1 s m args below meth c H locs cl sl Q (F0 m 348 ls []) := by
  obtain ⟨hx, hb, hml, hts, hown, hK, hN, hX, hC, hA, hsc, hbl, hbA, hst, hL⟩ := h0
  refine lv_aload_n hx hb dL_law_348 rfl (lv_at hl 1 rfl) ?_
  refine lv_aload_n hx hb dL_law_349 rfl (lv_at hl 0 rfl) ?_
  refine lv_iload hx hb dL_law_350 (lv_at hl 4 rfl) ?_
  refine lv_iconst (v := nI 1) hx hb dL_law_352 (by decide +kernel) ?_
  refine lv_iadd hx hb dL_law_353 ?_
  refine k_as (nI_add _ _) ?_
  refine k_sld hx hb hsc hbl hbA hS (v := xs (i + 1)) (by omega) hL rfl dL_law_354 ?_
  refine lv_aload_n hx hb dL_law_355 rfl (lv_at hl 0 rfl) ?_
  refine lv_iload hx hb dL_law_356 (lv_at hl 4 rfl) ?_
  refine lv_iconst (v := nI 2) hx hb dL_law_358 (by decide +kernel) ?_
  refine lv_iadd hx hb dL_law_359 ?_
  refine k_as (nI_add _ _) ?_
  refine k_sld hx hb hsc hbl hbA hS (v := xs (i + 2)) (by omega) hL rfl dL_law_360 ?_
  rw [show wL cI cZ cO cJ x a t b y o σ ρ μ ck Ho Hm Lo Se Em Ef gp gi am li dl g th = _ from List.append_assoc _ _ _] at hP hD
  refine kCallP_i (mc := 1) (ms := 6) (W1 := fun _ : Unit => wC cI cZ cO x a t b ck Ho (sT σ) (sE σ) (sD σ) (sF σ) (sS σ) (sC σ) (sL σ) (sT ρ) (sE ρ) (sD ρ) (sF ρ) (sS ρ) (sC ρ) (sL ρ) Lo Se Ef gp gi am li dl) (fun _ _ h => h) hP hD hS hA (fun _ => rfl) (vx_runSW (As := [.ref (x 0), .int (xs (i + 1)), .int (xs (i + 2))]) (rest := []) ⟨hx, hb, hml, hown, hts⟩ (c_L_setGains_bad l hst D cI cZ cO cJ x a t b ck Ho (sT σ) (sE σ) (sD σ) (sF σ) (sS σ) (sC σ) (sL σ) (sT ρ) (sE ρ) (sD ρ) (sF ρ) (sS ρ) (sC ρ) (sL ρ) Lo Se Ef gp gi am li dl (xs (i + 1)) (xs (i + 2)) H.size h) (vx_cwSW (rm := rxL_setGains) 3 hts gL_law_L_setGains rfl rfl rfl (by decide +kernel) ⟨Nat.le_of_ble_eq_true rfl, Nat.le_of_ble_eq_true rfl⟩) (kPreSHW hK hN hX hC (pfP hP) (pfD hD) hS (kfree (pfD hD) hS hA)) rfl rfl hl.1 rfl (lv_room (Nat.le_of_ble_eq_true rfl)) dL_law_361 ⟨by show _ ≤ 653765; omega, by show _ ≤ 7134809; omega⟩) (fun r9 u H locs hr9 hP hD hS => ?_)
  subst hr9
  rw [← List.append_assoc] at hP hD
  have hP : va_P D vwCl (((wC cI cZ cO x a t b ck Ho (sT σ) (sE σ) (sD σ) (sF σ) (sS σ) (sC σ) (sL σ) (sT ρ) (sE ρ) (sD ρ) (sF ρ) (sS ρ) (sC ρ) (sL ρ) Lo Se Ef gp gi am li dl ++ [(o, .inl (cJ, 1, .inr (.inl g)))])) ++ wM cI cZ y Lo Se Em gp gi am li dl (rK μ) (rT μ) (rE μ) (rD μ) (rF μ) (rS μ) (rC μ) Hm th) H := hP
  have hD : va_D A (((wC cI cZ cO x a t b ck Ho (sT σ) (sE σ) (sD σ) (sF σ) (sS σ) (sC σ) (sL σ) (sT ρ) (sE ρ) (sD ρ) (sF ρ) (sS ρ) (sC ρ) (sL ρ) Lo Se Ef gp gi am li dl ++ [(o, .inl (cJ, 1, .inr (.inl g)))])) ++ wM cI cZ y Lo Se Em gp gi am li dl (rK μ) (rT μ) (rE μ) (rD μ) (rF μ) (rS μ) (rC μ) Hm th) := hD
  refine lv_istore (lv' := [(5, .int (nI 1)), (0, .ref bs), (1, .ref (x 0)), (2, .ref (y 0)), (3, .ref o), (4, .int (nI i))]) hx hb dL_law_364 hl (by decide) rfl (fun ls hl => ?_)
  refine lv_aload_n hx hb dL_law_366 rfl (lv_at hl 3 rfl) ?_
  refine lv_aload_n hx hb dL_law_367 rfl (lv_at hl 1 rfl) ?_
  refine lv_iload hx hb dL_law_368 (lv_at hl 5 rfl) ?_
  refine lv_iconst (v := nI 1) hx hb dL_law_370 (by decide +kernel) ?_
  refine lv_iadd hx hb dL_law_371 ?_
  refine k_as (nI_add _ _) ?_
  refine k_sld hx hb hsc hbl hbA hS (v := xs (i + 1)) (by omega) hL rfl dL_law_372 ?_
  refine lv_aload_n hx hb dL_law_373 rfl (lv_at hl 1 rfl) ?_
  refine lv_iload hx hb dL_law_374 (lv_at hl 5 rfl) ?_
  refine lv_iconst (v := nI 2) hx hb dL_law_376 (by decide +kernel) ?_
  refine lv_iadd hx hb dL_law_377 ?_
  refine k_as (nI_add _ _) ?_
  refine k_sld hx hb hsc hbl hbA hS (v := xs (i + 2)) (by omega) hL rfl dL_law_378 ?_
  refine kCallS_v (mc := 0) (ms := 0) (W1 := fun _ : Unit => wM cI cZ y Lo Se Em gp gi am li dl (rK μ) (rT μ) (rE μ) (rD μ) (rF μ) (rS μ) (rC μ) Hm (nI 1)) (fun _ _ h => h) hP hD hS hA (fun _ => rfl) (va_runV (As := [.int (xs (i + 1)), .int (xs (i + 2))]) (rest := []) ⟨hx, hb, hml, hown, hts⟩ (c_X3_setGains_bad l D cI cZ cO cJ y Lo Se Em gp gi am li dl (rK μ) (rT μ) (rE μ) (rD μ) (rF μ) (rS μ) (rC μ) Hm th (xs (i + 1)) (xs (i + 2)) H.size h) (cwV (rm := rmX3_setGains) 2 hts gL_law_X3_setGains rfl rfl rfl (by decide +kernel) ⟨Nat.le_of_ble_eq_true rfl, Nat.le_of_ble_eq_true rfl⟩) (kPreVW hK hN (sfP hP) (sfD hD) (va_recv hK (sfP hP) (ci := 3) (q0 := 0) rfl rfl)) rfl rfl hl.1 rfl (lv_room (Nat.le_of_ble_eq_true rfl)) dL_law_379 ⟨by show _ ≤ 653765; omega, by show _ ≤ 7134809; omega⟩) (fun u2 H locs hr9 hP hD hS => ?_)
  have hP : va_P D vwCl (((wC cI cZ cO x a t b ck Ho (sT σ) (sE σ) (sD σ) (sF σ) (sS σ) (sC σ) (sL σ) (sT ρ) (sE ρ) (sD ρ) (sF ρ) (sS ρ) (sC ρ) (sL ρ) Lo Se Ef gp gi am li dl ++ [(o, .inl (cJ, 1, .inr (.inl g)))])) ++ wM cI cZ y Lo Se Em gp gi am li dl (rK μ) (rT μ) (rE μ) (rD μ) (rF μ) (rS μ) (rC μ) Hm (nI 1)) H := hP
  have hD : va_D A (((wC cI cZ cO x a t b ck Ho (sT σ) (sE σ) (sD σ) (sF σ) (sS σ) (sC σ) (sL σ) (sT ρ) (sE ρ) (sD ρ) (sF ρ) (sS ρ) (sC ρ) (sL ρ) Lo Se Ef gp gi am li dl ++ [(o, .inl (cJ, 1, .inr (.inl g)))])) ++ wM cI cZ y Lo Se Em gp gi am li dl (rK μ) (rT μ) (rE μ) (rD μ) (rF μ) (rS μ) (rC μ) Hm (nI 1)) := hD
  refine lv_aload_n hx hb dL_law_382 rfl (lv_at hl 3 rfl) ?_
  refine kCallS_i (mc := 0) (ms := 0) (W1 := fun _ : Unit => wM cI cZ y Lo Se Em gp gi am li dl (rK μ) (rT μ) (rE μ) (rD μ) (rF μ) (rS μ) (rC μ) Hm (nI 1)) (fun _ _ h => h) hP hD hS hA (fun _ => rfl) (va_runV (As := []) (rest := []) ⟨hx, hb, hml, hown, hts⟩ (c_X3_thrown l D cI cZ cO cJ y Lo Se Em gp gi am li dl (rK μ) (rT μ) (rE μ) (rD μ) (rF μ) (rS μ) (rC μ) Hm (nI 1) H.size) (cwV (rm := rmX3_thrown) 0 hts gL_law_X3_thrown rfl rfl rfl (by decide +kernel) ⟨Nat.le_of_ble_eq_true rfl, Nat.le_of_ble_eq_true rfl⟩) (kPreVW hK hN (sfP hP) (sfD hD) (va_recv hK (sfP hP) (ci := 3) (q0 := 0) rfl rfl)) rfl rfl hl.1 rfl (lv_room (Nat.le_of_ble_eq_true rfl)) dL_law_383 ⟨by show _ ≤ 653765; omega, by show _ ≤ 7134809; omega⟩) (fun r9 u3 H locs hr9 hP hD hS => ?_)
  subst hr9
  have hP : va_P D vwCl (((wC cI cZ cO x a t b ck Ho (sT σ) (sE σ) (sD σ) (sF σ) (sS σ) (sC σ) (sL σ) (sT ρ) (sE ρ) (sD ρ) (sF ρ) (sS ρ) (sC ρ) (sL ρ) Lo Se Ef gp gi am li dl ++ [(o, .inl (cJ, 1, .inr (.inl g)))])) ++ wM cI cZ y Lo Se Em gp gi am li dl (rK μ) (rT μ) (rE μ) (rD μ) (rF μ) (rS μ) (rC μ) Hm (nI 1)) H := hP
  have hD : va_D A (((wC cI cZ cO x a t b ck Ho (sT σ) (sE σ) (sD σ) (sF σ) (sS σ) (sC σ) (sL σ) (sT ρ) (sE ρ) (sD ρ) (sF ρ) (sS ρ) (sC ρ) (sL ρ) Lo Se Ef gp gi am li dl ++ [(o, .inl (cJ, 1, .inr (.inl g)))])) ++ wM cI cZ y Lo Se Em gp gi am li dl (rK μ) (rT μ) (rE μ) (rD μ) (rF μ) (rS μ) (rC μ) Hm (nI 1)) := hD
  refine lv_iload hx hb dL_law_386 (lv_at hl 0 rfl) ?_
  refine lv_icmp_eq (tgt := 393) hx hb dL_law_388 (by decide) (fun _ => ?_) (fun c9 => absurd rfl c9)
  refine lv_goto (tgt := 1234) hx hb dL_law_393 (by decide) ?_
  refine lv_iinc (v := nI (i + 4)) (lv' := [(4, .int (nI (i + 4))), (5, .int (nI 1)), (0, .ref bs), (1, .ref (x 0)), (2, .ref (y 0)), (3, .ref o)]) hx hb dL_law_1234 hl (k := 5) rfl (nI_add _ 4) (by decide) rfl (fun ls hl => ?_)
  refine lv_goto (tgt := 23) hx hb dL_law_1237 (by decide) ?_
  refine W.widen (k := cl + 1) (n := sl + 6) (by omega) (by omega) ?_
  exact kk σ ρ μ ck Ho Hm Lo Se Em Ef gp gi am li dl _ _ hI H locs hP hD hS ls (lv_sub hl [2, 3, 4, 5, 0] rfl)

set_option maxHeartbeats 4000000 in
set_option maxRecDepth 100000 in
theorem lb_setHall_ok (v w : Int32) (e1 : xs (i + 1) = v) (e2 : xs (i + 2) = w) (hv : inR v (nI 1000) (nI 5000)) (hw : inR w (nI 1000) (nI 5000)) (h0 : LC p l s m args c D cI cZ cO cJ bs L xs A) (hi : i + 4 ≤ L) (hcl : cl + 1 ≤ 653765) (hsl : sl + 6 ≤ 7134809) (hI : LI σ μ ck Ho Hm Lo Se Em Ef gp gi am dl) (hP : va_P D vwCl (wL cI cZ cO cJ x a t b y o σ ρ μ ck Ho Hm Lo Se Em Ef gp gi am li dl g th) H) (hD : va_D A (wL cI cZ cO cJ x a t b y o σ ρ μ ck Ho Hm Lo Se Em Ef gp gi am li dl g th)) (hS : va_S A s.heap H locs) (hl : lv_has ls 7 [(0, .ref bs), (1, .ref (x 0)), (2, .ref (y 0)), (3, .ref o), (4, .int (nI i))]) (kk : Hd p l e s m args below meth c D cI cZ cO cJ x a t b y o bs A Q (i + 4) (cl + 1) (sl + 6)) : W p l e room_1 s m args below meth c H locs cl sl Q (F0 m 396 ls []) := by
  obtain ⟨hx, hb, hml, hts, hown, hK, hN, hX, hC, hA, hsc, hbl, hbA, hst, hL⟩ := h0
  refine lv_aload_n hx hb dL_law_396 rfl (lv_at hl 1 rfl) ?_
  refine lv_aload_n hx hb dL_law_397 rfl (lv_at hl 0 rfl) ?_
  refine lv_iload hx hb dL_law_398 (lv_at hl 4 rfl) ?_
  refine lv_iconst (v := nI 1) hx hb dL_law_400 (by decide +kernel) ?_
  refine lv_iadd hx hb dL_law_401 ?_
  refine k_as (nI_add _ _) ?_
  refine k_sld hx hb hsc hbl hbA hS (v := v) (by omega) hL e1 dL_law_402 ?_
  refine lv_aload_n hx hb dL_law_403 rfl (lv_at hl 0 rfl) ?_
  refine lv_iload hx hb dL_law_404 (lv_at hl 4 rfl) ?_
  refine lv_iconst (v := nI 2) hx hb dL_law_406 (by decide +kernel) ?_
  refine lv_iadd hx hb dL_law_407 ?_
  refine k_as (nI_add _ _) ?_
  refine k_sld hx hb hsc hbl hbA hS (v := w) (by omega) hL e2 dL_law_408 ?_
  rw [show wL cI cZ cO cJ x a t b y o σ ρ μ ck Ho Hm Lo Se Em Ef gp gi am li dl g th = _ from List.append_assoc _ _ _] at hP hD
  refine kCallP_i (mc := 0) (ms := 0) (W1 := fun _ : Unit => wC cI cZ cO x a t b ck Ho (sT σ) (sE σ) (sD σ) (sF σ) (sS σ) (sC σ) (sL σ) (sT ρ) (sE ρ) (sD ρ) (sF ρ) (sS ρ) (sC ρ) (sL ρ) Lo Se Ef gp gi v w dl) (fun _ _ h => h) hP hD hS hA (fun _ => rfl) (vx_runSW (As := [.ref (x 0), .int v, .int w]) (rest := []) ⟨hx, hb, hml, hown, hts⟩ (c_L_setHall l D cI cZ cO cJ x a t b ck Ho (sT σ) (sE σ) (sD σ) (sF σ) (sS σ) (sC σ) (sL σ) (sT ρ) (sE ρ) (sD ρ) (sF ρ) (sS ρ) (sC ρ) (sL ρ) Lo Se Ef gp gi am li dl v w H.size hv.1 hv.2 hw.1 hw.2) (vx_cwSW (rm := rmL_setHall) 3 hts gL_law_L_setHall rfl rfl rfl (by decide +kernel) ⟨Nat.le_of_ble_eq_true rfl, Nat.le_of_ble_eq_true rfl⟩) (kPreSHW hK hN hX hC (pfP hP) (pfD hD) hS (kfree (pfD hD) hS hA)) rfl rfl hl.1 rfl (lv_room (Nat.le_of_ble_eq_true rfl)) dL_law_409 ⟨by show _ ≤ 653765; omega, by show _ ≤ 7134809; omega⟩) (fun r9 u H locs hr9 hP hD hS => ?_)
  subst hr9
  rw [← List.append_assoc] at hP hD
  have hP : va_P D vwCl (((wC cI cZ cO x a t b ck Ho (sT σ) (sE σ) (sD σ) (sF σ) (sS σ) (sC σ) (sL σ) (sT ρ) (sE ρ) (sD ρ) (sF ρ) (sS ρ) (sC ρ) (sL ρ) Lo Se Ef gp gi v w dl ++ [(o, .inl (cJ, 1, .inr (.inl g)))])) ++ wM cI cZ y Lo Se Em gp gi am li dl (rK μ) (rT μ) (rE μ) (rD μ) (rF μ) (rS μ) (rC μ) Hm th) H := hP
  have hD : va_D A (((wC cI cZ cO x a t b ck Ho (sT σ) (sE σ) (sD σ) (sF σ) (sS σ) (sC σ) (sL σ) (sT ρ) (sE ρ) (sD ρ) (sF ρ) (sS ρ) (sC ρ) (sL ρ) Lo Se Ef gp gi v w dl ++ [(o, .inl (cJ, 1, .inr (.inl g)))])) ++ wM cI cZ y Lo Se Em gp gi am li dl (rK μ) (rT μ) (rE μ) (rD μ) (rF μ) (rS μ) (rC μ) Hm th) := hD
  refine lv_istore (lv' := [(5, .int (nI 0)), (0, .ref bs), (1, .ref (x 0)), (2, .ref (y 0)), (3, .ref o), (4, .int (nI i))]) hx hb dL_law_412 hl (by decide) rfl (fun ls hl => ?_)
  refine lv_aload_n hx hb dL_law_414 rfl (lv_at hl 3 rfl) ?_
  refine lv_aload_n hx hb dL_law_415 rfl (lv_at hl 1 rfl) ?_
  refine lv_iload hx hb dL_law_416 (lv_at hl 5 rfl) ?_
  refine lv_iconst (v := nI 1) hx hb dL_law_418 (by decide +kernel) ?_
  refine lv_iadd hx hb dL_law_419 ?_
  refine k_as (nI_add _ _) ?_
  refine k_sld hx hb hsc hbl hbA hS (v := v) (by omega) hL e1 dL_law_420 ?_
  refine lv_aload_n hx hb dL_law_421 rfl (lv_at hl 1 rfl) ?_
  refine lv_iload hx hb dL_law_422 (lv_at hl 5 rfl) ?_
  refine lv_iconst (v := nI 2) hx hb dL_law_424 (by decide +kernel) ?_
  refine lv_iadd hx hb dL_law_425 ?_
  refine k_as (nI_add _ _) ?_
  refine k_sld hx hb hsc hbl hbA hS (v := w) (by omega) hL e2 dL_law_426 ?_
  refine kCallS_v (mc := 0) (ms := 0) (W1 := fun _ : Unit => wM cI cZ y Lo Se Em gp gi v w dl (rK μ) (rT μ) (rE μ) (rD μ) (rF μ) (rS μ) (rC μ) Hm (nI 0)) (fun _ _ h => h) hP hD hS hA (fun _ => rfl) (va_runV (As := [.int v, .int w]) (rest := []) ⟨hx, hb, hml, hown, hts⟩ (c_X3_setHall_ok l D cI cZ cO cJ y Lo Se Em gp gi am li dl (rK μ) (rT μ) (rE μ) (rD μ) (rF μ) (rS μ) (rC μ) Hm th v w H.size hv hw) (cwV (rm := rmX3_setHall) 2 hts gL_law_X3_setHall rfl rfl rfl (by decide +kernel) ⟨Nat.le_of_ble_eq_true rfl, Nat.le_of_ble_eq_true rfl⟩) (kPreVW hK hN (sfP hP) (sfD hD) (va_recv hK (sfP hP) (ci := 3) (q0 := 0) rfl rfl)) rfl rfl hl.1 rfl (lv_room (Nat.le_of_ble_eq_true rfl)) dL_law_427 ⟨by show _ ≤ 653765; omega, by show _ ≤ 7134809; omega⟩) (fun u2 H locs hr9 hP hD hS => ?_)
  have hP : va_P D vwCl (((wC cI cZ cO x a t b ck Ho (sT σ) (sE σ) (sD σ) (sF σ) (sS σ) (sC σ) (sL σ) (sT ρ) (sE ρ) (sD ρ) (sF ρ) (sS ρ) (sC ρ) (sL ρ) Lo Se Ef gp gi v w dl ++ [(o, .inl (cJ, 1, .inr (.inl g)))])) ++ wM cI cZ y Lo Se Em gp gi v w dl (rK μ) (rT μ) (rE μ) (rD μ) (rF μ) (rS μ) (rC μ) Hm (nI 0)) H := hP
  have hD : va_D A (((wC cI cZ cO x a t b ck Ho (sT σ) (sE σ) (sD σ) (sF σ) (sS σ) (sC σ) (sL σ) (sT ρ) (sE ρ) (sD ρ) (sF ρ) (sS ρ) (sC ρ) (sL ρ) Lo Se Ef gp gi v w dl ++ [(o, .inl (cJ, 1, .inr (.inl g)))])) ++ wM cI cZ y Lo Se Em gp gi v w dl (rK μ) (rT μ) (rE μ) (rD μ) (rF μ) (rS μ) (rC μ) Hm (nI 0)) := hD
  refine lv_aload_n hx hb dL_law_430 rfl (lv_at hl 3 rfl) ?_
  refine kCallS_i (mc := 0) (ms := 0) (W1 := fun _ : Unit => wM cI cZ y Lo Se Em gp gi v w dl (rK μ) (rT μ) (rE μ) (rD μ) (rF μ) (rS μ) (rC μ) Hm (nI 0)) (fun _ _ h => h) hP hD hS hA (fun _ => rfl) (va_runV (As := []) (rest := []) ⟨hx, hb, hml, hown, hts⟩ (c_X3_thrown l D cI cZ cO cJ y Lo Se Em gp gi v w dl (rK μ) (rT μ) (rE μ) (rD μ) (rF μ) (rS μ) (rC μ) Hm (nI 0) H.size) (cwV (rm := rmX3_thrown) 0 hts gL_law_X3_thrown rfl rfl rfl (by decide +kernel) ⟨Nat.le_of_ble_eq_true rfl, Nat.le_of_ble_eq_true rfl⟩) (kPreVW hK hN (sfP hP) (sfD hD) (va_recv hK (sfP hP) (ci := 3) (q0 := 0) rfl rfl)) rfl rfl hl.1 rfl (lv_room (Nat.le_of_ble_eq_true rfl)) dL_law_431 ⟨by show _ ≤ 653765; omega, by show _ ≤ 7134809; omega⟩) (fun r9 u3 H locs hr9 hP hD hS => ?_)
  subst hr9
  have hP : va_P D vwCl (((wC cI cZ cO x a t b ck Ho (sT σ) (sE σ) (sD σ) (sF σ) (sS σ) (sC σ) (sL σ) (sT ρ) (sE ρ) (sD ρ) (sF ρ) (sS ρ) (sC ρ) (sL ρ) Lo Se Ef gp gi v w dl ++ [(o, .inl (cJ, 1, .inr (.inl g)))])) ++ wM cI cZ y Lo Se Em gp gi v w dl (rK μ) (rT μ) (rE μ) (rD μ) (rF μ) (rS μ) (rC μ) Hm (nI 0)) H := hP
  have hD : va_D A (((wC cI cZ cO x a t b ck Ho (sT σ) (sE σ) (sD σ) (sF σ) (sS σ) (sC σ) (sL σ) (sT ρ) (sE ρ) (sD ρ) (sF ρ) (sS ρ) (sC ρ) (sL ρ) Lo Se Ef gp gi v w dl ++ [(o, .inl (cJ, 1, .inr (.inl g)))])) ++ wM cI cZ y Lo Se Em gp gi v w dl (rK μ) (rT μ) (rE μ) (rD μ) (rF μ) (rS μ) (rC μ) Hm (nI 0)) := hD
  refine lv_iload hx hb dL_law_434 (lv_at hl 0 rfl) ?_
  refine lv_icmp_eq (tgt := 441) hx hb dL_law_436 (by decide) (fun _ => ?_) (fun c9 => absurd rfl c9)
  refine lv_goto (tgt := 1234) hx hb dL_law_441 (by decide) ?_
  refine lv_iinc (v := nI (i + 4)) (lv' := [(4, .int (nI (i + 4))), (5, .int (nI 0)), (0, .ref bs), (1, .ref (x 0)), (2, .ref (y 0)), (3, .ref o)]) hx hb dL_law_1234 hl (k := 5) rfl (nI_add _ 4) (by decide) rfl (fun ls hl => ?_)
  refine lv_goto (tgt := 23) hx hb dL_law_1237 (by decide) ?_
  refine W.widen (k := cl + 1) (n := sl + 6) (by omega) (by omega) ?_
  exact kk σ ρ μ ck Ho Hm Lo Se Em Ef gp gi v w dl _ _ (LI_hall hI hv) H locs hP hD hS ls (lv_sub hl [2, 3, 4, 5, 0] rfl)

set_option maxHeartbeats 4000000 in
set_option maxRecDepth 100000 in
theorem lb_setHall_bad (h : ¬ (inR (xs (i + 1)) (nI 1000) (nI 5000) ∧ inR (xs (i + 2)) (nI 1000) (nI 5000))) (h0 : LC p l s m args c D cI cZ cO cJ bs L xs A) (hi : i + 4 ≤ L) (hcl : cl + 1 ≤ 653765) (hsl : sl + 6 ≤ 7134809) (hI : LI σ μ ck Ho Hm Lo Se Em Ef gp gi am dl) (hP : va_P D vwCl (wL cI cZ cO cJ x a t b y o σ ρ μ ck Ho Hm Lo Se Em Ef gp gi am li dl g th) H) (hD : va_D A (wL cI cZ cO cJ x a t b y o σ ρ μ ck Ho Hm Lo Se Em Ef gp gi am li dl g th)) (hS : va_S A s.heap H locs) (hl : lv_has ls 7 [(0, .ref bs), (1, .ref (x 0)), (2, .ref (y 0)), (3, .ref o), (4, .int (nI i))]) (kk : Hd p l e s m args below meth c D cI cZ cO cJ x a t b y o bs A Q (i + 4) (cl + 1) (sl + 6)) : W p l e room_1 s m args below meth c H locs cl sl Q (F0 m 396 ls []) := by
  obtain ⟨hx, hb, hml, hts, hown, hK, hN, hX, hC, hA, hsc, hbl, hbA, hst, hL⟩ := h0
  refine lv_aload_n hx hb dL_law_396 rfl (lv_at hl 1 rfl) ?_
  refine lv_aload_n hx hb dL_law_397 rfl (lv_at hl 0 rfl) ?_
  refine lv_iload hx hb dL_law_398 (lv_at hl 4 rfl) ?_
  refine lv_iconst (v := nI 1) hx hb dL_law_400 (by decide +kernel) ?_
  refine lv_iadd hx hb dL_law_401 ?_
  refine k_as (nI_add _ _) ?_
  refine k_sld hx hb hsc hbl hbA hS (v := xs (i + 1)) (by omega) hL rfl dL_law_402 ?_
  refine lv_aload_n hx hb dL_law_403 rfl (lv_at hl 0 rfl) ?_
  refine lv_iload hx hb dL_law_404 (lv_at hl 4 rfl) ?_
  refine lv_iconst (v := nI 2) hx hb dL_law_406 (by decide +kernel) ?_
  refine lv_iadd hx hb dL_law_407 ?_
  refine k_as (nI_add _ _) ?_
  refine k_sld hx hb hsc hbl hbA hS (v := xs (i + 2)) (by omega) hL rfl dL_law_408 ?_
  rw [show wL cI cZ cO cJ x a t b y o σ ρ μ ck Ho Hm Lo Se Em Ef gp gi am li dl g th = _ from List.append_assoc _ _ _] at hP hD
  refine kCallP_i (mc := 1) (ms := 6) (W1 := fun _ : Unit => wC cI cZ cO x a t b ck Ho (sT σ) (sE σ) (sD σ) (sF σ) (sS σ) (sC σ) (sL σ) (sT ρ) (sE ρ) (sD ρ) (sF ρ) (sS ρ) (sC ρ) (sL ρ) Lo Se Ef gp gi am li dl) (fun _ _ h => h) hP hD hS hA (fun _ => rfl) (vx_runSW (As := [.ref (x 0), .int (xs (i + 1)), .int (xs (i + 2))]) (rest := []) ⟨hx, hb, hml, hown, hts⟩ (c_L_setHall_bad l hst D cI cZ cO cJ x a t b ck Ho (sT σ) (sE σ) (sD σ) (sF σ) (sS σ) (sC σ) (sL σ) (sT ρ) (sE ρ) (sD ρ) (sF ρ) (sS ρ) (sC ρ) (sL ρ) Lo Se Ef gp gi am li dl (xs (i + 1)) (xs (i + 2)) H.size h) (vx_cwSW (rm := rxL_setHall) 3 hts gL_law_L_setHall rfl rfl rfl (by decide +kernel) ⟨Nat.le_of_ble_eq_true rfl, Nat.le_of_ble_eq_true rfl⟩) (kPreSHW hK hN hX hC (pfP hP) (pfD hD) hS (kfree (pfD hD) hS hA)) rfl rfl hl.1 rfl (lv_room (Nat.le_of_ble_eq_true rfl)) dL_law_409 ⟨by show _ ≤ 653765; omega, by show _ ≤ 7134809; omega⟩) (fun r9 u H locs hr9 hP hD hS => ?_)
  subst hr9
  rw [← List.append_assoc] at hP hD
  have hP : va_P D vwCl (((wC cI cZ cO x a t b ck Ho (sT σ) (sE σ) (sD σ) (sF σ) (sS σ) (sC σ) (sL σ) (sT ρ) (sE ρ) (sD ρ) (sF ρ) (sS ρ) (sC ρ) (sL ρ) Lo Se Ef gp gi am li dl ++ [(o, .inl (cJ, 1, .inr (.inl g)))])) ++ wM cI cZ y Lo Se Em gp gi am li dl (rK μ) (rT μ) (rE μ) (rD μ) (rF μ) (rS μ) (rC μ) Hm th) H := hP
  have hD : va_D A (((wC cI cZ cO x a t b ck Ho (sT σ) (sE σ) (sD σ) (sF σ) (sS σ) (sC σ) (sL σ) (sT ρ) (sE ρ) (sD ρ) (sF ρ) (sS ρ) (sC ρ) (sL ρ) Lo Se Ef gp gi am li dl ++ [(o, .inl (cJ, 1, .inr (.inl g)))])) ++ wM cI cZ y Lo Se Em gp gi am li dl (rK μ) (rT μ) (rE μ) (rD μ) (rF μ) (rS μ) (rC μ) Hm th) := hD
  refine lv_istore (lv' := [(5, .int (nI 1)), (0, .ref bs), (1, .ref (x 0)), (2, .ref (y 0)), (3, .ref o), (4, .int (nI i))]) hx hb dL_law_412 hl (by decide) rfl (fun ls hl => ?_)
  refine lv_aload_n hx hb dL_law_414 rfl (lv_at hl 3 rfl) ?_
  refine lv_aload_n hx hb dL_law_415 rfl (lv_at hl 1 rfl) ?_
  refine lv_iload hx hb dL_law_416 (lv_at hl 5 rfl) ?_
  refine lv_iconst (v := nI 1) hx hb dL_law_418 (by decide +kernel) ?_
  refine lv_iadd hx hb dL_law_419 ?_
  refine k_as (nI_add _ _) ?_
  refine k_sld hx hb hsc hbl hbA hS (v := xs (i + 1)) (by omega) hL rfl dL_law_420 ?_
  refine lv_aload_n hx hb dL_law_421 rfl (lv_at hl 1 rfl) ?_
  refine lv_iload hx hb dL_law_422 (lv_at hl 5 rfl) ?_
  refine lv_iconst (v := nI 2) hx hb dL_law_424 (by decide +kernel) ?_
  refine lv_iadd hx hb dL_law_425 ?_
  refine k_as (nI_add _ _) ?_
  refine k_sld hx hb hsc hbl hbA hS (v := xs (i + 2)) (by omega) hL rfl dL_law_426 ?_
  refine kCallS_v (mc := 0) (ms := 0) (W1 := fun _ : Unit => wM cI cZ y Lo Se Em gp gi am li dl (rK μ) (rT μ) (rE μ) (rD μ) (rF μ) (rS μ) (rC μ) Hm (nI 1)) (fun _ _ h => h) hP hD hS hA (fun _ => rfl) (va_runV (As := [.int (xs (i + 1)), .int (xs (i + 2))]) (rest := []) ⟨hx, hb, hml, hown, hts⟩ (c_X3_setHall_bad l D cI cZ cO cJ y Lo Se Em gp gi am li dl (rK μ) (rT μ) (rE μ) (rD μ) (rF μ) (rS μ) (rC μ) Hm th (xs (i + 1)) (xs (i + 2)) H.size h) (cwV (rm := rmX3_setHall) 2 hts gL_law_X3_setHall rfl rfl rfl (by decide +kernel) ⟨Nat.le_of_ble_eq_true rfl, Nat.le_of_ble_eq_true rfl⟩) (kPreVW hK hN (sfP hP) (sfD hD) (va_recv hK (sfP hP) (ci := 3) (q0 := 0) rfl rfl)) rfl rfl hl.1 rfl (lv_room (Nat.le_of_ble_eq_true rfl)) dL_law_427 ⟨by show _ ≤ 653765; omega, by show _ ≤ 7134809; omega⟩) (fun u2 H locs hr9 hP hD hS => ?_)
  have hP : va_P D vwCl (((wC cI cZ cO x a t b ck Ho (sT σ) (sE σ) (sD σ) (sF σ) (sS σ) (sC σ) (sL σ) (sT ρ) (sE ρ) (sD ρ) (sF ρ) (sS ρ) (sC ρ) (sL ρ) Lo Se Ef gp gi am li dl ++ [(o, .inl (cJ, 1, .inr (.inl g)))])) ++ wM cI cZ y Lo Se Em gp gi am li dl (rK μ) (rT μ) (rE μ) (rD μ) (rF μ) (rS μ) (rC μ) Hm (nI 1)) H := hP
  have hD : va_D A (((wC cI cZ cO x a t b ck Ho (sT σ) (sE σ) (sD σ) (sF σ) (sS σ) (sC σ) (sL σ) (sT ρ) (sE ρ) (sD ρ) (sF ρ) (sS ρ) (sC ρ) (sL ρ) Lo Se Ef gp gi am li dl ++ [(o, .inl (cJ, 1, .inr (.inl g)))])) ++ wM cI cZ y Lo Se Em gp gi am li dl (rK μ) (rT μ) (rE μ) (rD μ) (rF μ) (rS μ) (rC μ) Hm (nI 1)) := hD
  refine lv_aload_n hx hb dL_law_430 rfl (lv_at hl 3 rfl) ?_
  refine kCallS_i (mc := 0) (ms := 0) (W1 := fun _ : Unit => wM cI cZ y Lo Se Em gp gi am li dl (rK μ) (rT μ) (rE μ) (rD μ) (rF μ) (rS μ) (rC μ) Hm (nI 1)) (fun _ _ h => h) hP hD hS hA (fun _ => rfl) (va_runV (As := []) (rest := []) ⟨hx, hb, hml, hown, hts⟩ (c_X3_thrown l D cI cZ cO cJ y Lo Se Em gp gi am li dl (rK μ) (rT μ) (rE μ) (rD μ) (rF μ) (rS μ) (rC μ) Hm (nI 1) H.size) (cwV (rm := rmX3_thrown) 0 hts gL_law_X3_thrown rfl rfl rfl (by decide +kernel) ⟨Nat.le_of_ble_eq_true rfl, Nat.le_of_ble_eq_true rfl⟩) (kPreVW hK hN (sfP hP) (sfD hD) (va_recv hK (sfP hP) (ci := 3) (q0 := 0) rfl rfl)) rfl rfl hl.1 rfl (lv_room (Nat.le_of_ble_eq_true rfl)) dL_law_431 ⟨by show _ ≤ 653765; omega, by show _ ≤ 7134809; omega⟩) (fun r9 u3 H locs hr9 hP hD hS => ?_)
  subst hr9
  have hP : va_P D vwCl (((wC cI cZ cO x a t b ck Ho (sT σ) (sE σ) (sD σ) (sF σ) (sS σ) (sC σ) (sL σ) (sT ρ) (sE ρ) (sD ρ) (sF ρ) (sS ρ) (sC ρ) (sL ρ) Lo Se Ef gp gi am li dl ++ [(o, .inl (cJ, 1, .inr (.inl g)))])) ++ wM cI cZ y Lo Se Em gp gi am li dl (rK μ) (rT μ) (rE μ) (rD μ) (rF μ) (rS μ) (rC μ) Hm (nI 1)) H := hP
  have hD : va_D A (((wC cI cZ cO x a t b ck Ho (sT σ) (sE σ) (sD σ) (sF σ) (sS σ) (sC σ) (sL σ) (sT ρ) (sE ρ) (sD ρ) (sF ρ) (sS ρ) (sC ρ) (sL ρ) Lo Se Ef gp gi am li dl ++ [(o, .inl (cJ, 1, .inr (.inl g)))])) ++ wM cI cZ y Lo Se Em gp gi am li dl (rK μ) (rT μ) (rE μ) (rD μ) (rF μ) (rS μ) (rC μ) Hm (nI 1)) := hD
  refine lv_iload hx hb dL_law_434 (lv_at hl 0 rfl) ?_
  refine lv_icmp_eq (tgt := 441) hx hb dL_law_436 (by decide) (fun _ => ?_) (fun c9 => absurd rfl c9)
  refine lv_goto (tgt := 1234) hx hb dL_law_441 (by decide) ?_
  refine lv_iinc (v := nI (i + 4)) (lv' := [(4, .int (nI (i + 4))), (5, .int (nI 1)), (0, .ref bs), (1, .ref (x 0)), (2, .ref (y 0)), (3, .ref o)]) hx hb dL_law_1234 hl (k := 5) rfl (nI_add _ 4) (by decide) rfl (fun ls hl => ?_)
  refine lv_goto (tgt := 23) hx hb dL_law_1237 (by decide) ?_
  refine W.widen (k := cl + 1) (n := sl + 6) (by omega) (by omega) ?_
  exact kk σ ρ μ ck Ho Hm Lo Se Em Ef gp gi am li dl _ _ hI H locs hP hD hS ls (lv_sub hl [2, 3, 4, 5, 0] rfl)

set_option maxHeartbeats 4000000 in
set_option maxRecDepth 100000 in
theorem lb_setDelay_ok (d : Nat) (e1 : xs (i + 1) = nI d) (hd : d < 9) (h0 : LC p l s m args c D cI cZ cO cJ bs L xs A) (hi : i + 4 ≤ L) (hcl : cl + 1 ≤ 653765) (hsl : sl + 6 ≤ 7134809) (hI : LI σ μ ck Ho Hm Lo Se Em Ef gp gi am dl) (hP : va_P D vwCl (wL cI cZ cO cJ x a t b y o σ ρ μ ck Ho Hm Lo Se Em Ef gp gi am li dl g th) H) (hD : va_D A (wL cI cZ cO cJ x a t b y o σ ρ μ ck Ho Hm Lo Se Em Ef gp gi am li dl g th)) (hS : va_S A s.heap H locs) (hl : lv_has ls 7 [(0, .ref bs), (1, .ref (x 0)), (2, .ref (y 0)), (3, .ref o), (4, .int (nI i))]) (kk : Hd p l e s m args below meth c D cI cZ cO cJ x a t b y o bs A Q (i + 4) (cl + 1) (sl + 6)) : W p l e room_1 s m args below meth c H locs cl sl Q (F0 m 444 ls []) := by
  obtain ⟨hx, hb, hml, hts, hown, hK, hN, hX, hC, hA, hsc, hbl, hbA, hst, hL⟩ := h0
  refine lv_aload_n hx hb dL_law_444 rfl (lv_at hl 1 rfl) ?_
  refine lv_aload_n hx hb dL_law_445 rfl (lv_at hl 0 rfl) ?_
  refine lv_iload hx hb dL_law_446 (lv_at hl 4 rfl) ?_
  refine lv_iconst (v := nI 1) hx hb dL_law_448 (by decide +kernel) ?_
  refine lv_iadd hx hb dL_law_449 ?_
  refine k_as (nI_add _ _) ?_
  refine k_sld hx hb hsc hbl hbA hS (v := nI d) (by omega) hL e1 dL_law_450 ?_
  refine lv_aload_n hx hb dL_law_451 rfl (lv_at hl 3 rfl) ?_
  refine kCallP_i (mc := 0) (ms := 0) (W1 := fun _ : Unit => wC cI cZ cO x a t b ck Ho (sT σ) (sE σ) (sD σ) (sF σ) (sS σ) (sC σ) (sL σ) (sT ρ) (sE ρ) (sD ρ) (sF ρ) (sS ρ) (sC ρ) (sL ρ) Lo Se Ef gp gi am li d ++ [(o, .inl (cJ, 1, .inr (.inl (vp_updL g 0 ((nI dl)).toInt64))))]) (fun _ _ h => h) hP hD hS hA (fun _ => rfl) (vx_runSW (As := [.ref (x 0), .int (nI d), .ref o]) (rest := []) ⟨hx, hb, hml, hown, hts⟩ (c_L_setDelay l D cI cZ cO cJ x a t b ck Ho (sT σ) (sE σ) (sD σ) (sF σ) (sS σ) (sC σ) (sL σ) (sT ρ) (sE ρ) (sD ρ) (sF ρ) (sS ρ) (sC ρ) (sL ρ) Lo Se Ef gp gi am li dl d o g H.size hd) (vx_cwSW (rm := rmL_setDelay) 3 hts gL_law_L_setDelay rfl rfl rfl (by decide +kernel) ⟨Nat.le_of_ble_eq_true rfl, Nat.le_of_ble_eq_true rfl⟩) (kPreSHW hK hN hX hC (pfP hP) (pfD hD) hS (kfree (pfD hD) hS hA)) rfl rfl hl.1 rfl (lv_room (Nat.le_of_ble_eq_true rfl)) dL_law_452 ⟨by show _ ≤ 653765; omega, by show _ ≤ 7134809; omega⟩) (fun r9 u H locs hr9 hP hD hS => ?_)
  subst hr9
  have hP : va_P D vwCl ((wC cI cZ cO x a t b ck Ho (sT σ) (sE σ) (sD σ) (sF σ) (sS σ) (sC σ) (sL σ) (sT ρ) (sE ρ) (sD ρ) (sF ρ) (sS ρ) (sC ρ) (sL ρ) Lo Se Ef gp gi am li d ++ [(o, .inl (cJ, 1, .inr (.inl (vp_updL g 0 ((nI dl)).toInt64))))]) ++ wM cI cZ y Lo Se Em gp gi am li dl (rK μ) (rT μ) (rE μ) (rD μ) (rF μ) (rS μ) (rC μ) Hm th) H := hP
  have hD : va_D A ((wC cI cZ cO x a t b ck Ho (sT σ) (sE σ) (sD σ) (sF σ) (sS σ) (sC σ) (sL σ) (sT ρ) (sE ρ) (sD ρ) (sF ρ) (sS ρ) (sC ρ) (sL ρ) Lo Se Ef gp gi am li d ++ [(o, .inl (cJ, 1, .inr (.inl (vp_updL g 0 ((nI dl)).toInt64))))]) ++ wM cI cZ y Lo Se Em gp gi am li dl (rK μ) (rT μ) (rE μ) (rD μ) (rF μ) (rS μ) (rC μ) Hm th) := hD
  refine lv_istore (lv' := [(5, .int (nI 0)), (0, .ref bs), (1, .ref (x 0)), (2, .ref (y 0)), (3, .ref o), (4, .int (nI i))]) hx hb dL_law_455 hl (by decide) rfl (fun ls hl => ?_)
  refine lv_aload_n hx hb dL_law_457 rfl (lv_at hl 3 rfl) ?_
  refine lv_aload_n hx hb dL_law_458 rfl (lv_at hl 1 rfl) ?_
  refine lv_iload hx hb dL_law_459 (lv_at hl 5 rfl) ?_
  refine lv_iconst (v := nI 1) hx hb dL_law_461 (by decide +kernel) ?_
  refine lv_iadd hx hb dL_law_462 ?_
  refine k_as (nI_add _ _) ?_
  refine k_sld hx hb hsc hbl hbA hS (v := nI d) (by omega) hL e1 dL_law_463 ?_
  refine kCallS_i (mc := 0) (ms := 0) (W1 := fun _ : Unit => wM cI cZ y Lo Se Em gp gi am li d (rK μ) (rT μ) (rE μ) (rD μ) (rF μ) (rS μ) (rC μ) Hm (nI 0)) (fun _ _ h => h) hP hD hS hA (fun _ => rfl) (va_runV (As := [.int (nI d)]) (rest := []) ⟨hx, hb, hml, hown, hts⟩ (c_X3_setDelay_ok l D cI cZ cO cJ y Lo Se Em gp gi am li dl (rK μ) (rT μ) (rE μ) (rD μ) (rF μ) (rS μ) (rC μ) Hm th d H.size hd) (cwV (rm := rmX3_setDelay) 1 hts gL_law_X3_setDelay rfl rfl rfl (by decide +kernel) ⟨Nat.le_of_ble_eq_true rfl, Nat.le_of_ble_eq_true rfl⟩) (kPreVW hK hN (sfP hP) (sfD hD) (va_recv hK (sfP hP) (ci := 3) (q0 := 0) rfl rfl)) rfl rfl hl.1 rfl (lv_room (Nat.le_of_ble_eq_true rfl)) dL_law_464 ⟨by show _ ≤ 653765; omega, by show _ ≤ 7134809; omega⟩) (fun r9 u2 H locs hr9 hP hD hS => ?_)
  subst hr9
  have hP : va_P D vwCl ((wC cI cZ cO x a t b ck Ho (sT σ) (sE σ) (sD σ) (sF σ) (sS σ) (sC σ) (sL σ) (sT ρ) (sE ρ) (sD ρ) (sF ρ) (sS ρ) (sC ρ) (sL ρ) Lo Se Ef gp gi am li d ++ [(o, .inl (cJ, 1, .inr (.inl (vp_updL g 0 ((nI dl)).toInt64))))]) ++ wM cI cZ y Lo Se Em gp gi am li d (rK μ) (rT μ) (rE μ) (rD μ) (rF μ) (rS μ) (rC μ) Hm (nI 0)) H := hP
  have hD : va_D A ((wC cI cZ cO x a t b ck Ho (sT σ) (sE σ) (sD σ) (sF σ) (sS σ) (sC σ) (sL σ) (sT ρ) (sE ρ) (sD ρ) (sF ρ) (sS ρ) (sC ρ) (sL ρ) Lo Se Ef gp gi am li d ++ [(o, .inl (cJ, 1, .inr (.inl (vp_updL g 0 ((nI dl)).toInt64))))]) ++ wM cI cZ y Lo Se Em gp gi am li d (rK μ) (rT μ) (rE μ) (rD μ) (rF μ) (rS μ) (rC μ) Hm (nI 0)) := hD
  refine lv_istore (lv' := [(6, .int (nI dl)), (5, .int (nI 0)), (0, .ref bs), (1, .ref (x 0)), (2, .ref (y 0)), (3, .ref o), (4, .int (nI i))]) hx hb dL_law_467 hl (by decide) rfl (fun ls hl => ?_)
  refine lv_aload_n hx hb dL_law_469 rfl (lv_at hl 4 rfl) ?_
  refine kCallS_i (mc := 0) (ms := 0) (W1 := fun _ : Unit => wM cI cZ y Lo Se Em gp gi am li d (rK μ) (rT μ) (rE μ) (rD μ) (rF μ) (rS μ) (rC μ) Hm (nI 0)) (fun _ _ h => h) hP hD hS hA (fun _ => rfl) (va_runV (As := []) (rest := []) ⟨hx, hb, hml, hown, hts⟩ (c_X3_thrown l D cI cZ cO cJ y Lo Se Em gp gi am li d (rK μ) (rT μ) (rE μ) (rD μ) (rF μ) (rS μ) (rC μ) Hm (nI 0) H.size) (cwV (rm := rmX3_thrown) 0 hts gL_law_X3_thrown rfl rfl rfl (by decide +kernel) ⟨Nat.le_of_ble_eq_true rfl, Nat.le_of_ble_eq_true rfl⟩) (kPreVW hK hN (sfP hP) (sfD hD) (va_recv hK (sfP hP) (ci := 3) (q0 := 0) rfl rfl)) rfl rfl hl.1 rfl (lv_room (Nat.le_of_ble_eq_true rfl)) dL_law_470 ⟨by show _ ≤ 653765; omega, by show _ ≤ 7134809; omega⟩) (fun r9 u3 H locs hr9 hP hD hS => ?_)
  subst hr9
  have hP : va_P D vwCl ((wC cI cZ cO x a t b ck Ho (sT σ) (sE σ) (sD σ) (sF σ) (sS σ) (sC σ) (sL σ) (sT ρ) (sE ρ) (sD ρ) (sF ρ) (sS ρ) (sC ρ) (sL ρ) Lo Se Ef gp gi am li d ++ [(o, .inl (cJ, 1, .inr (.inl (vp_updL g 0 ((nI dl)).toInt64))))]) ++ wM cI cZ y Lo Se Em gp gi am li d (rK μ) (rT μ) (rE μ) (rD μ) (rF μ) (rS μ) (rC μ) Hm (nI 0)) H := hP
  have hD : va_D A ((wC cI cZ cO x a t b ck Ho (sT σ) (sE σ) (sD σ) (sF σ) (sS σ) (sC σ) (sL σ) (sT ρ) (sE ρ) (sD ρ) (sF ρ) (sS ρ) (sC ρ) (sL ρ) Lo Se Ef gp gi am li d ++ [(o, .inl (cJ, 1, .inr (.inl (vp_updL g 0 ((nI dl)).toInt64))))]) ++ wM cI cZ y Lo Se Em gp gi am li d (rK μ) (rT μ) (rE μ) (rD μ) (rF μ) (rS μ) (rC μ) Hm (nI 0)) := hD
  refine lv_iload hx hb dL_law_473 (lv_at hl 1 rfl) ?_
  refine lv_icmp_eq (tgt := 480) hx hb dL_law_475 (by decide) (fun _ => ?_) (fun c9 => absurd rfl c9)
  refine lv_iload hx hb dL_law_480 (lv_at hl 1 rfl) ?_
  refine lv_if_ne (tgt := 497) hx hb dL_law_482 (by decide) (fun c9 => absurd rfl c9) (fun _ => ?_)
  refine lv_aload_n hx hb dL_law_485 rfl (lv_at hl 5 rfl) ?_
  refine lv_iconst (v := nI 0) hx hb dL_law_486 (by decide +kernel) ?_
  refine k_laldS hx hb hK 3 rfl hP dL_law_487 ?_
  refine lv_iload hx hb dL_law_488 (lv_at hl 0 rfl) ?_
  refine lv_i2l hx hb dL_law_490 rfl ?_
  refine k_lcmp0 (pk_uLs.trans (congrArg Int32.toInt64 rfl)) hx hb dL_law_491 ?_
  refine lv_if_eq (tgt := 497) hx hb dL_law_492 (by decide) (fun _ => ?_) (fun c9 => absurd rfl c9)
  refine lv_goto (tgt := 1234) hx hb dL_law_497 (by decide) ?_
  refine lv_iinc (v := nI (i + 4)) (lv' := [(4, .int (nI (i + 4))), (6, .int (nI dl)), (5, .int (nI 0)), (0, .ref bs), (1, .ref (x 0)), (2, .ref (y 0)), (3, .ref o)]) hx hb dL_law_1234 hl (k := 6) rfl (nI_add _ 4) (by decide) rfl (fun ls hl => ?_)
  refine lv_goto (tgt := 23) hx hb dL_law_1237 (by decide) ?_
  refine W.widen (k := cl + 1) (n := sl + 6) (by omega) (by omega) ?_
  exact kk σ ρ μ ck Ho Hm Lo Se Em Ef gp gi am li d _ _ (LI_delay hd hI) H locs hP hD hS ls (lv_sub hl [3, 4, 5, 6, 0] rfl)

end LB
