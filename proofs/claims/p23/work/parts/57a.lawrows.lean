/-! ===== the law's body ===== -/
def dI (xs : Nat → Int32) (L k : Nat) : Int32 := (if k < L then xs k else nI (961987163 * (k + 79) + 383 * k * k + 503)) &&& nI 2147483647
theorem dI_N (xs : Nat → Int32) (L k : Nat) : ∃ X : Nat, X < 2147483648 ∧ dI xs L k = nI X := pk_andE _ (m := nI 2147483647) 31 (by decide +kernel)
abbrev rmL_dice : Room := { frames := 0, cells := 0, slots := 0, locals := 0 }
set_option maxHeartbeats 4000000 in
set_option maxRecDepth 100000 in
theorem c_L_dice (l : Launch) (bs L : Nat) (xs : Nat → Int32) (k sz : Nat) (hL : L ≤ 260) (hk : k < 100) : kMR l yL_dice wsL_dice rmL_dice [.ref bs, .int (nI k)] bs L xs sz (dI xs L k) := by
  refine kOfW (cc := cL_dice) (maxL := 2) (ret := some .int) (by decide +kernel) rfl ?_
  intro p e s m args below meth c s₁ B9 hml hv
  obtain ⟨rfl, hsz, hXs, hbl⟩ := hv
  have hts := atoms_spec (ws := wsL_dice) B9.pre
  have hown : s.vm.findClass RL = some m.cls := findClass_of_methodNamed B9.named
  have hl := lv_entry ([.ref bs, .int (nI k)]) (n := 2) (Nat.le_of_ble_eq_true rfl)
  rw [lg_entry_eq]
  generalize (lg_sl ([.ref bs, .int (nI k)]) ++ List.replicate (2 - (lg_sl ([.ref bs, .int (nI k)])).length) Slot.unset).toArray = ls at hl ⊢
  have hl : lv_has ls 2 [(0, .ref bs), (1, .int (nI k))] := hl
  have hx := B9.exec
  have hb := B9.bytes
  have hr := B9.returns
  have hlocks := B9.notSynchronized
  have hS : va_S (va_A [] sz) s.heap s.heap [] := va_S.rf
  have hbl : bs < s.heap.size := by rw [hsz]; exact hbl
  have hbA : ¬ va_A [] sz bs := by
    rintro (⟨j, e9, h3⟩ | h3)
    · simp at h3
    · rw [← hsz] at h3; exact absurd hbl (Nat.not_lt.mpr h3)
  refine lv_iload_n hx hb dL_dice_0 rfl (lv_at hl 1 rfl) ?_
  refine lv_aload_n hx hb dL_dice_1 rfl (lv_at hl 0 rfl) ?_
  refine va_slen hx hb hXs hbl hbA hS dL_dice_2 ?_
  by_cases c1 : k < L
  · refine lv_icmp_ge (tgt := 12) hx hb dL_dice_3 (by decide) (fun c9 => absurd c9 (nI_ge (a := k) (b := L) c1 (by omega))) (fun _ => ?_)
    refine lv_aload_n hx hb dL_dice_6 rfl (lv_at hl 0 rfl) ?_
    refine lv_iload_n hx hb dL_dice_7 rfl (lv_at hl 1 rfl) ?_
    refine va_sld hx hb hXs hbl hbA hS (vp_in_nI c1 (by omega)) dL_dice_8 ?_
    rw [nI_clamp (by omega)]
    refine lv_goto (tgt := 31) hx hb dL_dice_9 (by decide) ?_
    refine lv_ldc hx hb hown (hts (.constant RL 8 (2147483647)) (by decide +kernel)) dL_dice_31 ?_
    refine k_as (y := nI 2147483647) (by decide +kernel) ?_
    refine lv_iand hx hb dL_dice_33 ?_
    exact W.iret hx hb hr (fun t ht hW => ⟨⟨_, (), rfl, (by unfold dI; rw [if_pos c1]), trivial⟩, hS.F ht⟩) hS.2.2 dL_dice_34 hlocks
  · refine lv_icmp_ge (tgt := 12) hx hb dL_dice_3 (by decide) (fun _ => ?_) (fun c9 => absurd (nI_le (a := L) (b := k) (Nat.not_lt.mp c1) (by omega)) c9)
    refine lv_ldc hx hb hown (hts (.constant RL 7 (961987163)) (by decide +kernel)) dL_dice_12 ?_
    refine k_as (y := nI 961987163) (by decide +kernel) ?_
    refine lv_iload_n hx hb dL_dice_14 rfl (lv_at hl 1 rfl) ?_
    refine lv_bipush (v := nI 79) hx hb dL_dice_15 (by decide +kernel) ?_
    refine lv_iadd hx hb dL_dice_17 ?_
    refine k_as (nI_add _ _) ?_
    refine lv_imul hx hb dL_dice_18 ?_
    refine k_as (pk_mul _ _) ?_
    refine lv_sipush (v := nI 383) hx hb dL_dice_19 (by decide +kernel) ?_
    refine lv_iload_n hx hb dL_dice_22 rfl (lv_at hl 1 rfl) ?_
    refine lv_imul hx hb dL_dice_23 ?_
    refine k_as (pk_mul _ _) ?_
    refine lv_iload_n hx hb dL_dice_24 rfl (lv_at hl 1 rfl) ?_
    refine lv_imul hx hb dL_dice_25 ?_
    refine k_as (pk_mul _ _) ?_
    refine lv_iadd hx hb dL_dice_26 ?_
    refine k_as (nI_add _ _) ?_
    refine lv_sipush (v := nI 503) hx hb dL_dice_27 (by decide +kernel) ?_
    refine lv_iadd hx hb dL_dice_30 ?_
    refine k_as (nI_add _ _) ?_
    refine lv_ldc hx hb hown (hts (.constant RL 8 (2147483647)) (by decide +kernel)) dL_dice_31 ?_
    refine k_as (y := nI 2147483647) (by decide +kernel) ?_
    refine lv_iand hx hb dL_dice_33 ?_
    exact W.iret hx hb hr (fun t ht hW => ⟨⟨_, (), rfl, (by unfold dI; rw [if_neg c1]), trivial⟩, hS.F ht⟩) hS.2.2 dL_dice_34 hlocks
theorem kPreD {s : State} {H : Heap} {locs : List Loc} {A0 : Nat → Prop} {bs L : Nat} {xs : Nat → Int32} {As : List Value} (hsc : va_X bs L xs s s.heap) (hbl : bs < s.heap.size) (hbA : ¬ A0 bs) (hS : va_S A0 s.heap H locs) : PreS s H (va_Pc As (kPreR bs L xs H.size)) As :=
  ⟨fun a U g mk q => by obtain ⟨q0, q1, q2, q3⟩ := q; exact ⟨q0, q1, va_X.moved (u := U) (U := U.calling g mk a) (Vm.Alike.refl U.vm) q2, q3⟩, fun U hU hW => ⟨rfl, by rw [hU], by rw [hU]; exact (hsc.kept (hS.2.1 bs hbl hbA)).moved hW.alike, Nat.lt_of_lt_of_le hbl hS.1⟩⟩
def Hd (p : Program) (l : Launch) (e : Env) (s : State) (m : MethodId) (args : Array Value) (below : List Frame) (meth : Method) (c : Code) (D : va_G) (cI cZ cO : ClassId) (x a t b : Nat → Nat) (ap ae az bs : Nat) (A : Nat → Prop) (Q : State → Prop) (n cl sl : Nat) : Prop :=
  ∀ (q : QS) (ρ : HS) (pf ef zf : Nat → Int32) (B : Nat), QOK q → qK q ≤ 100 * n → PR pf q B → ER ef q → ZR zf q → ∀ (H : Heap) (locs : List Loc), va_P D vwCl (wQ cI cZ cO x a t b q ρ ++ [(ap, .inl (cI, 6, .inl pf)), (ae, .inl (cI, 48, .inl ef)), (az, .inl (cI, 30, .inl zf))]) H → va_D A (wQ cI cZ cO x a t b q ρ ++ [(ap, .inl (cI, 6, .inl pf)), (ae, .inl (cI, 48, .inl ef)), (az, .inl (cI, 30, .inl zf))]) → va_S A s.heap H locs →
    ∀ ls : Array Slot, lv_has ls 14 [(0, .ref bs), (1, .ref (x 0)), (2, .ref ae), (3, .ref az), (4, .ref ap), (5, .int (nI 1)), (6, .int (nI n))] → W p l e room_1 s m args below meth c H locs cl sl Q (F0 m 138 ls [])
def Tl (p : Program) (l : Launch) (e : Env) (s : State) (m : MethodId) (args : Array Value) (below : List Frame) (meth : Method) (c : Code) (D : va_G) (cI cZ cO : ClassId) (x a t b : Nat → Nat) (ap ae az bs : Nat) (A : Nat → Prop) (Q : State → Prop) (n X cl sl : Nat) : Prop :=
  ∀ (q : QS) (ρ : HS) (pf ef zf : Nat → Int32) (B : Nat), QOK q → qK q ≤ 100 * n + 100 → PR pf q B → ER ef q → ZR zf q → ∀ (H : Heap) (locs : List Loc), va_P D vwCl (wQ cI cZ cO x a t b q ρ ++ [(ap, .inl (cI, 6, .inl pf)), (ae, .inl (cI, 48, .inl ef)), (az, .inl (cI, 30, .inl zf))]) H → va_D A (wQ cI cZ cO x a t b q ρ ++ [(ap, .inl (cI, 6, .inl pf)), (ae, .inl (cI, 48, .inl ef)), (az, .inl (cI, 30, .inl zf))]) → va_S A s.heap H locs →
    ∀ ls : Array Slot, lv_has ls 14 [(0, .ref bs), (1, .ref (x 0)), (2, .ref ae), (3, .ref az), (4, .ref ap), (5, .int (nI 1)), (6, .int (nI n)), (7, .int (nI X))] → W p l e room_1 s m args below meth c H locs cl sl Q (F0 m 880 ls [])
def LC (p : Program) (l : Launch) (s : State) (m : MethodId) (args : Array Value) (c : Code) (D : va_G) (cI cZ cO cJ : ClassId) (bs L : Nat) (xs : Nat → Int32) (A : Nat → Prop) : Prop :=
  p.tables.exec = Jvm.exec ∧ c.code = cL_law ∧ c.maxLocals = 14 ∧ (∀ w ∈ wsL_law, w.before args s = true) ∧ s.vm.findClass RL = some m.cls ∧ va_K D vwCl (kT cI cZ cO cJ) s ∧ kN s ∧ kX A s s.heap ∧ va_Nc nISE nIAE s ∧ (∀ q : Nat, s.heap.size ≤ q → A q) ∧ va_X bs L xs s s.heap ∧ bs < s.heap.size ∧ ¬ A bs ∧ l.stackTraces = false ∧ L ≤ 260
theorem ZR.load {zf : Nat → Int32} {q : QS} {z : Nat} {v : Int32} (h : ZR zf q) (hz : z < 6) : ZR (upd zf z v) (qsLoad q z v) := fun k hk => by
  refine ⟨?_, ?_⟩
  · show upd zf z v k = upd (qLo q) z v k
    unfold upd
    split
    · rfl
    · exact (h k hk).1
  · show upd zf z v (6 + k) = qSe q k
    unfold upd
    rw [if_neg (by omega)]
    exact (h k hk).2
theorem ZR.set {zf : Nat → Int32} {q : QS} {z : Nat} {v : Int32} (h : ZR zf q) (hz : z < 6) : ZR (upd zf (6 + z) v) (qsSet q z v) := fun k hk => by
  refine ⟨?_, ?_⟩
  · show upd zf (6 + z) v k = qLo q k
    unfold upd
    rw [if_neg (by omega)]
    exact (h k hk).1
  · show upd zf (6 + z) v (6 + k) = upd (qSe q) z v k
    unfold upd
    by_cases e : k = z
    · rw [if_pos (by omega), if_pos e]
    · rw [if_neg (by omega), if_neg e]; exact (h k hk).2
theorem set_E0 (q : QS) (z : Nat) (v : Int32) : sE (qσ (qsSet q z v)) z = 0 := by
  show upd (sE (qσ q)) z (nI 0) z = 0
  unfold upd
  rw [if_pos rfl]
  exact nI_0
theorem ER.eff {ef : Nat → Int32} {q : QS} {f z : Nat} {v : Int32} (h : ER ef q) (hz : z < 6) : ER (upd ef (6 * f + z) v) (qsEff q f z v) := fun g k hg hk => by
  show upd ef (6 * f + z) v (6 * g + k) = va_up (qEf q) f (upd (qEf q f) z v) g k
  by_cases e : g = f
  · subst e
    rw [va_up_self]
    unfold upd
    by_cases e2 : k = z
    · rw [if_pos (by omega), if_pos e2]
    · rw [if_neg (by omega), if_neg e2]; exact h g k hg hk
  · rw [va_up_ne _ _ e]
    unfold upd
    rw [if_neg (by omega)]; exact h g k hg hk
theorem PR.gains {pf : Nat → Int32} {q : QS} {B : Nat} {v w : Int32} (h : PR pf q B) : PR (upd (upd pf 0 v) 1 w) (qsGains q v w) B := by
  obtain ⟨h0, h1, h2, h3, h4, h5, h6⟩ := h
  exact ⟨rfl, rfl, h2, h3, h4, h5, h6⟩
theorem PR.hall {pf : Nat → Int32} {q : QS} {B : Nat} {v w : Int32} (h : PR pf q B) : PR (upd (upd pf 2 v) 3 w) (qsHall q v w) B := by
  obtain ⟨h0, h1, h2, h3, h4, h5, h6⟩ := h
  exact ⟨h0, h1, rfl, rfl, h4, h5, h6⟩
theorem PR.delay {pf : Nat → Int32} {q : QS} {B d : Nat} (h : PR pf q B) : PR (upd pf 4 (nI d)) (qsDelay q d) B := by
  obtain ⟨h0, h1, h2, h3, h4, h5, h6⟩ := h
  exact ⟨h0, h1, h2, h3, rfl, h5, h6⟩
