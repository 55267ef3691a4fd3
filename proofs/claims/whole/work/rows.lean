section
-- ===== PART A: goes FIRST, ahead of the names: the tables' words, and 'selects' of the private methods out of them =====
/-- a private method of a class that the tables say can be made, by its rows of tables_1 -/
def lw_okq (q : MethodName × Nat) : Prop := (q.1.cls ≠ "java/lang/invoke/MethodHandle" ∧ q.1.cls ≠ "java/lang/invoke/VarHandle") ∧ Cond.instantiable q.1.cls q.2 ∈ tables_1 ∧ Cond.privateMethod q.1 ∈ tables_1 ∧ Cond.instanceMethod q.1 ∈ tables_1
theorem lw_p0 : lw_okq (⟨"java/lang/Throwable", "fillInStackTrace", "(I)Ljava/lang/Throwable;"⟩, 6) := ⟨⟨by decide +kernel, by decide +kernel⟩, List.mem_of_getElem? (i := 180) (by decide +kernel), List.mem_of_getElem? (i := 178) (by decide +kernel), List.mem_of_getElem? (i := 179) (by decide +kernel)⟩
theorem lw_p1 : lw_okq (⟨"Coldaisle$Hall", "control", "(LColdaisle$Settings;I)I"⟩, 7) := ⟨⟨by decide +kernel, by decide +kernel⟩, List.mem_of_getElem? (i := 70) (by decide +kernel), List.mem_of_getElem? (i := 322) (by decide +kernel), List.mem_of_getElem? (i := 323) (by decide +kernel)⟩
theorem lw_p2 : lw_okq (⟨"Coldaisle$Hall", "raiseForFailures", "(LColdaisle$Settings;II)I"⟩, 7) := ⟨⟨by decide +kernel, by decide +kernel⟩, List.mem_of_getElem? (i := 70) (by decide +kernel), List.mem_of_getElem? (i := 338) (by decide +kernel), List.mem_of_getElem? (i := 339) (by decide +kernel)⟩
theorem lw_p3 : lw_okq (⟨"Coldaisle$Hall", "commandFans", "(LColdaisle$Settings;)V"⟩, 7) := ⟨⟨by decide +kernel, by decide +kernel⟩, List.mem_of_getElem? (i := 70) (by decide +kernel), List.mem_of_getElem? (i := 343) (by decide +kernel), List.mem_of_getElem? (i := 344) (by decide +kernel)⟩
theorem lw_p4 : lw_okq (⟨"Coldaisle$Hall", "greatestDemand", "([I)I"⟩, 7) := ⟨⟨by decide +kernel, by decide +kernel⟩, List.mem_of_getElem? (i := 70) (by decide +kernel), List.mem_of_getElem? (i := 348) (by decide +kernel), List.mem_of_getElem? (i := 349) (by decide +kernel)⟩
theorem lw_p5 : lw_okq (⟨"Coldaisle$Hall", "turnFans", "(LColdaisle$Settings;)V"⟩, 7) := ⟨⟨by decide +kernel, by decide +kernel⟩, List.mem_of_getElem? (i := 70) (by decide +kernel), List.mem_of_getElem? (i := 353) (by decide +kernel), List.mem_of_getElem? (i := 354) (by decide +kernel)⟩
theorem lw_p6 : lw_okq (⟨"Coldaisle$Hall", "nextTemperature", "(LColdaisle$Settings;I)I"⟩, 7) := ⟨⟨by decide +kernel, by decide +kernel⟩, List.mem_of_getElem? (i := 70) (by decide +kernel), List.mem_of_getElem? (i := 357) (by decide +kernel), List.mem_of_getElem? (i := 358) (by decide +kernel)⟩
theorem lw_p7 : lw_okq (⟨"Coldaisle", "noteHotZones", "()I"⟩, 5) := ⟨⟨by decide +kernel, by decide +kernel⟩, List.mem_of_getElem? (i := 13) (by decide +kernel), List.mem_of_getElem? (i := 361) (by decide +kernel), List.mem_of_getElem? (i := 362) (by decide +kernel)⟩
theorem lw_p8 : lw_okq (⟨"Coldaisle", "greatestTemperature", "(III)I"⟩, 5) := ⟨⟨by decide +kernel, by decide +kernel⟩, List.mem_of_getElem? (i := 13) (by decide +kernel), List.mem_of_getElem? (i := 403) (by decide +kernel), List.mem_of_getElem? (i := 404) (by decide +kernel)⟩
theorem lw_p9 : lw_okq (⟨"Coldaisle", "criticalFan", "(II)I"⟩, 5) := ⟨⟨by decide +kernel, by decide +kernel⟩, List.mem_of_getElem? (i := 13) (by decide +kernel), List.mem_of_getElem? (i := 421) (by decide +kernel), List.mem_of_getElem? (i := 422) (by decide +kernel)⟩
theorem lw_p10 : lw_okq (⟨"ColdaisleModel", "goes", "(I)Z"⟩, 17) := ⟨⟨by decide +kernel, by decide +kernel⟩, List.mem_of_getElem? (i := 432) (by decide +kernel), List.mem_of_getElem? (i := 504) (by decide +kernel), List.mem_of_getElem? (i := 505) (by decide +kernel)⟩
theorem lw_p11 : lw_okq (⟨"ColdaisleModel", "running", "()I"⟩, 17) := ⟨⟨by decide +kernel, by decide +kernel⟩, List.mem_of_getElem? (i := 432) (by decide +kernel), List.mem_of_getElem? (i := 535) (by decide +kernel), List.mem_of_getElem? (i := 536) (by decide +kernel)⟩
theorem lw_p12 : lw_okq (⟨"ColdaisleModel", "minute", "(I)V"⟩, 17) := ⟨⟨by decide +kernel, by decide +kernel⟩, List.mem_of_getElem? (i := 432) (by decide +kernel), List.mem_of_getElem? (i := 559) (by decide +kernel), List.mem_of_getElem? (i := 560) (by decide +kernel)⟩
theorem lw_p13 : lw_okq (⟨"ColdaisleModel", "demands", "(II)V"⟩, 17) := ⟨⟨by decide +kernel, by decide +kernel⟩, List.mem_of_getElem? (i := 432) (by decide +kernel), List.mem_of_getElem? (i := 563) (by decide +kernel), List.mem_of_getElem? (i := 564) (by decide +kernel)⟩
theorem lw_p14 : lw_okq (⟨"ColdaisleModel", "commands", "(II)V"⟩, 17) := ⟨⟨by decide +kernel, by decide +kernel⟩, List.mem_of_getElem? (i := 432) (by decide +kernel), List.mem_of_getElem? (i := 573) (by decide +kernel), List.mem_of_getElem? (i := 574) (by decide +kernel)⟩
theorem lw_p15 : lw_okq (⟨"ColdaisleModel", "speeds", "(II)V"⟩, 17) := ⟨⟨by decide +kernel, by decide +kernel⟩, List.mem_of_getElem? (i := 432) (by decide +kernel), List.mem_of_getElem? (i := 577) (by decide +kernel), List.mem_of_getElem? (i := 578) (by decide +kernel)⟩
def lw_privs_1 : List (MethodName × Nat) := [(⟨"java/lang/Throwable", "fillInStackTrace", "(I)Ljava/lang/Throwable;"⟩, 6), (⟨"Coldaisle$Hall", "control", "(LColdaisle$Settings;I)I"⟩, 7), (⟨"Coldaisle$Hall", "raiseForFailures", "(LColdaisle$Settings;II)I"⟩, 7), (⟨"Coldaisle$Hall", "commandFans", "(LColdaisle$Settings;)V"⟩, 7), (⟨"Coldaisle$Hall", "greatestDemand", "([I)I"⟩, 7), (⟨"Coldaisle$Hall", "turnFans", "(LColdaisle$Settings;)V"⟩, 7), (⟨"Coldaisle$Hall", "nextTemperature", "(LColdaisle$Settings;I)I"⟩, 7), (⟨"Coldaisle", "noteHotZones", "()I"⟩, 5), (⟨"Coldaisle", "greatestTemperature", "(III)I"⟩, 5), (⟨"Coldaisle", "criticalFan", "(II)I"⟩, 5), (⟨"ColdaisleModel", "goes", "(I)Z"⟩, 17), (⟨"ColdaisleModel", "running", "()I"⟩, 17), (⟨"ColdaisleModel", "minute", "(I)V"⟩, 17), (⟨"ColdaisleModel", "demands", "(II)V"⟩, 17), (⟨"ColdaisleModel", "commands", "(II)V"⟩, 17), (⟨"ColdaisleModel", "speeds", "(II)V"⟩, 17)]
theorem lw_r1 : ∀ q ∈ lw_privs_1, lw_okq q := List.forall_mem_cons.mpr ⟨lw_p0, List.forall_mem_cons.mpr ⟨lw_p1, List.forall_mem_cons.mpr ⟨lw_p2, List.forall_mem_cons.mpr ⟨lw_p3, List.forall_mem_cons.mpr ⟨lw_p4, List.forall_mem_cons.mpr ⟨lw_p5, List.forall_mem_cons.mpr ⟨lw_p6, List.forall_mem_cons.mpr ⟨lw_p7, List.forall_mem_cons.mpr ⟨lw_p8, List.forall_mem_cons.mpr ⟨lw_p9, List.forall_mem_cons.mpr ⟨lw_p10, List.forall_mem_cons.mpr ⟨lw_p11, List.forall_mem_cons.mpr ⟨lw_p12, List.forall_mem_cons.mpr ⟨lw_p13, List.forall_mem_cons.mpr ⟨lw_p14, List.forall_mem_cons.mpr ⟨lw_p15, fun _ h => absurd h List.not_mem_nil⟩⟩⟩⟩⟩⟩⟩⟩⟩⟩⟩⟩⟩⟩⟩⟩
theorem lw_p16 : lw_okq (⟨"ColdaisleModel", "heats", "(II)V"⟩, 17) := ⟨⟨by decide +kernel, by decide +kernel⟩, List.mem_of_getElem? (i := 432) (by decide +kernel), List.mem_of_getElem? (i := 581) (by decide +kernel), List.mem_of_getElem? (i := 582) (by decide +kernel)⟩
theorem lw_p17 : lw_okq (⟨"ColdaisleModel", "asks", "(I)Z"⟩, 17) := ⟨⟨by decide +kernel, by decide +kernel⟩, List.mem_of_getElem? (i := 432) (by decide +kernel), List.mem_of_getElem? (i := 593) (by decide +kernel), List.mem_of_getElem? (i := 594) (by decide +kernel)⟩
theorem lw_p18 : lw_okq (⟨"ColdaisleModel", "asksIf", "(II)Z"⟩, 17) := ⟨⟨by decide +kernel, by decide +kernel⟩, List.mem_of_getElem? (i := 432) (by decide +kernel), List.mem_of_getElem? (i := 617) (by decide +kernel), List.mem_of_getElem? (i := 618) (by decide +kernel)⟩
theorem lw_p19 : lw_okq (⟨"ColdaisleModel", "greatest", "(III)I"⟩, 17) := ⟨⟨by decide +kernel, by decide +kernel⟩, List.mem_of_getElem? (i := 432) (by decide +kernel), List.mem_of_getElem? (i := 621) (by decide +kernel), List.mem_of_getElem? (i := 622) (by decide +kernel)⟩
theorem lw_p20 : lw_okq (⟨"ColdaisleModel", "copies", "()V"⟩, 17) := ⟨⟨by decide +kernel, by decide +kernel⟩, List.mem_of_getElem? (i := 432) (by decide +kernel), List.mem_of_getElem? (i := 625) (by decide +kernel), List.mem_of_getElem? (i := 626) (by decide +kernel)⟩
theorem lw_p21 : lw_okq (⟨"ColdaisleModel", "worst", "(II)I"⟩, 17) := ⟨⟨by decide +kernel, by decide +kernel⟩, List.mem_of_getElem? (i := 432) (by decide +kernel), List.mem_of_getElem? (i := 633) (by decide +kernel), List.mem_of_getElem? (i := 634) (by decide +kernel)⟩
def lw_privs_2 : List (MethodName × Nat) := [(⟨"ColdaisleModel", "heats", "(II)V"⟩, 17), (⟨"ColdaisleModel", "asks", "(I)Z"⟩, 17), (⟨"ColdaisleModel", "asksIf", "(II)Z"⟩, 17), (⟨"ColdaisleModel", "greatest", "(III)I"⟩, 17), (⟨"ColdaisleModel", "copies", "()V"⟩, 17), (⟨"ColdaisleModel", "worst", "(II)I"⟩, 17)]
theorem lw_r2 : ∀ q ∈ lw_privs_2, lw_okq q := List.forall_mem_cons.mpr ⟨lw_p16, List.forall_mem_cons.mpr ⟨lw_p17, List.forall_mem_cons.mpr ⟨lw_p18, List.forall_mem_cons.mpr ⟨lw_p19, List.forall_mem_cons.mpr ⟨lw_p20, List.forall_mem_cons.mpr ⟨lw_p21, fun _ h => absurd h List.not_mem_nil⟩⟩⟩⟩⟩⟩
def lw_privs : List (MethodName × Nat) := lw_privs_1 ++ (lw_privs_2)
def lw_tbl : List Cond := k2_sels lw_privs ++ tables_1
theorem lw_privs_ok : ∀ q ∈ lw_privs, lw_okq q := by
  show ∀ q ∈ lw_privs_1 ++ (lw_privs_2), lw_okq q
  exact List.forall_mem_append.mpr ⟨lw_r1, lw_r2⟩
end
section
/-! ===== BEGIN words of one list among another's, by their places ===== -/
theorem goodIn_r {big : List Cond} (ws : List Cond) (ps : List Nat) (hp : ws = ps.filterMap (fun i => big[i]?)) (h : ws.all goodWord = true) : GoodIn big ws := by
  intro w hw
  have h1 := List.all_eq_true.mp h w hw
  rw [hp] at hw
  obtain ⟨i, -, hi⟩ := List.mem_filterMap.mp hw
  have hm : w ∈ big := by first | exact List.mem_of_getElem? hi | exact List.getElem?_mem hi
  exact ⟨hm, good_of_word h1⟩
theorem goodIn_app {big a b : List Cond} (ha : GoodIn big a) (hb : GoodIn big b) : GoodIn big (a ++ b) := fun w h => (List.mem_append.mp h).elim (ha w) (hb w)
theorem goodIn_ca {big a b : List Cond} {c : Cond} (ha : GoodIn big (c :: a)) (hb : GoodIn big b) : GoodIn big (c :: (a ++ b)) := fun w h => (List.mem_cons.mp h).elim (fun e => ha w (List.mem_cons.mpr (Or.inl e))) (fun h => (List.mem_append.mp h).elim (fun h => ha w (List.mem_cons.mpr (Or.inr h))) (hb w))
theorem goodIn_sub {big ws : List Cond} (hm : ∀ w ∈ ws, w ∈ big) (h : ws.all goodWord = true) : GoodIn big ws := fun w hw => ⟨hm w hw, good_of_word (List.all_eq_true.mp h w hw)⟩
/-! ===== END ===== -/

/-! ===== BEGIN new T[n][m]: the outer array a place, the inner ones among the pooled ===== -/
/-- f, but v at every address of l -/
def vr_up {α : Type} (f : Nat → α) (l : List Nat) (v : α) : Nat → α := fun a => if a ∈ l then v else f a
theorem vr_up_in {α : Type} {f : Nat → α} {l : List Nat} {v : α} {a : Nat} (h : a ∈ l) : vr_up f l v a = v := if_pos h
theorem vr_up_ne {α : Type} {f : Nat → α} {l : List Nat} {v : α} {a : Nat} (h : a ∉ l) : vr_up f l v a = f a := if_neg h
theorem vr_rows {L l : List Nat} {f : Nat → va_E} {e : va_E} (h : ∀ a, a ∈ l → a ∉ L) : va_pl L f ++ l.map (fun a => (a, e)) = va_pl (L ++ l) (vr_up f l e) := by
  unfold va_pl
  rw [List.map_append]
  congr 1
  · apply List.map_congr_left
    intro a ha
    rw [vr_up_ne (fun q => h a q ha)]
  · apply List.map_congr_left
    intro a ha
    rw [vr_up_in ha]
theorem vr_lay {X rows : va_W} {x : Nat × va_E} {pl : va_W} {D : va_G} {cl : List vw_C} {H : Heap} (hP : va_P D cl (((X ++ pl) ++ [x]) ++ rows) H) : va_P D cl ((X ++ [x]) ++ (pl ++ rows)) H := by
  rw [List.append_assoc (X ++ pl)] at hP
  have h := va_P.swap hP
  rw [← List.append_assoc X] at h
  have h2 := va_P.swap h
  rw [List.append_assoc (X ++ [x])] at h2
  exact h2
theorem vr_layD {X rows : va_W} {x : Nat × va_E} {pl : va_W} {A : Nat → Prop} (hD : va_D A (((X ++ pl) ++ [x]) ++ rows)) : va_D A ((X ++ [x]) ++ (pl ++ rows)) := by
  rw [List.append_assoc (X ++ pl)] at hD
  have h := va_D.swap hD
  rw [← List.append_assoc X] at h
  have h2 := va_D.swap h
  rw [List.append_assoc (X ++ [x])] at h2
  exact h2
theorem vr_outer (c : ClassId) (N h0 : Nat) : ∀ i : Nat, Jvm.Free.Multi.outerC c N h0 i = arrV c N (fun j => va_rf (if j < i then some (h0 + 1 + j) else none))
  | 0 => by
    show ({ cls := c, slots := Array.replicate N .null, vm := .none } : Cell) = _
    rw [arrV_new]
    refine congrArg (arrV c N) (funext fun j => ?_)
    simp [va_rf]
  | i + 1 => by
    show (Jvm.Free.Multi.outerC c N h0 i).setSlot i (.ref (h0 + 1 + i)) = _
    rw [vr_outer c N h0 i, arrV_store]
    refine congrArg (arrV c N) (funext fun j => ?_)
    by_cases e : j = i
    · subst e
      simp [updV, va_rf]
    · by_cases h : j < i
      · simp [updV, e, h, Nat.lt_succ_of_lt h]
      · simp [updV, e, h, show ¬ j < i + 1 by omega]
def va_AOA (ty : FieldType) (U : State) : Prop := (Cond.arrayOver (.array ty)).before #[] U = true
theorem va_AOA.use {ty : FieldType} {A : Array Value} {U : State} (h : va_AOA ty U) : (Cond.arrayOver (.array ty)).before A U = true := h
section VGM
variable {p : Program} {l : Launch} {e : Env} {R : Room} {s : State} {m : MethodId} {args : Array Value} {below : List Frame} {meth : Method} {c : Code} {H : Heap} {locs : List Loc} {cells slots : Nat} {Q : State → Prop}
variable {cc : ByteArray} {pc : Nat} {ls : Array Slot} {rest : List Value} {D : va_G} {cl : List vw_C} {A : Nat → Prop} {a : Nat} {tys : List (ClassId × FieldType)} {ws : va_W} {H0 : Heap}
theorem va_mna {X : va_W} {L : List Nat} {f : Nat → va_E} {cc : ByteArray} (hexec : p.tables.exec = Jvm.exec) (hb : c.code = cc) {own : String} {index : Nat} {ty : FieldType} {cy : ClassId} (hown : s.vm.findClass own = some m.cls) (hclink : (Cond.classLink own index ("[" ++ (FieldType.array ty).toString)).before args s = true) (hover : va_AOA ty s) (harr : (Cond.arrayClass ty).before args s = true) (hcy : s.vm.findClass (FieldType.array ty).toString = some cy)
    (hK : va_K D cl tys s) (hP : va_P D cl (X ++ va_pl L f) H) (hD : va_D A (X ++ va_pl L f)) (hS : va_S A H0 H locs) (hA : ∀ q, H0.size ≤ q → A q) {n k : Int32} {N' K' : Nat} {z : vp_A} (hn : ¬ n < 0) (hk : ¬ k < 0) (hN : n.toNatClampNeg = N') (hM : k.toNatClampNeg = K')
    (hb1 : N' * 4 ≤ 536870912) (hb2 : K' * componentBytes ty ≤ 536870912) (hb3 : K' ≤ 536870912) (hdf : fits ty (defaultValue ty) = true) (hdd : (defaultValue ty).isDefault = true) (hcells : cells + (1 + N') ≤ R.cells) (hslots : slots + (N' + N' * K') ≤ R.slots) (hz : ∀ c : ClassId, Jvm.Free.Multi.innerC c K' (defaultValue ty) = vp_cell c z) (hdg : decode cc pc = .ok (.multianewarray index 2, 4))
    (kk : ∀ (q : Nat) (r : Nat → Nat) (cA : ClassId) (H1 : Heap), (∀ i j : Nat, i < N' → j < N' → r i = r j → i = j) → (∀ i : Nat, i < N' → r i ∉ L) → va_K D cl (tys ++ [(cA, .array ty)]) s →
      va_P D cl ((X ++ [(q, .inl (cA, N', .inr (.inr (.inr (.inr (fun i => if i < N' then some (r i) else none))))))]) ++ va_pl (L ++ (List.range N').map r) (vr_up f ((List.range N').map r) (.inl (cy, z)))) H1 → va_D A ((X ++ [(q, .inl (cA, N', .inr (.inr (.inr (.inr (fun i => if i < N' then some (r i) else none))))))]) ++ va_pl (L ++ (List.range N').map r) (vr_up f ((List.range N').map r) (.inl (cy, z)))) → va_S A H0 H1 locs →
      W p l e R s m args below meth c H1 locs (cells + 1 + N') (slots + N' + N' * K') Q (F0 m (pc + 4) ls (.ref q :: rest))) : W p l e R s m args below meth c H locs cells slots Q (F0 m pc ls (.int k :: .int n :: rest)) := by
  subst hN
  subst hM
  intro T hT Xs
  obtain ⟨vm₁, cA, comp, -, fA, fC, hO, -, X', step⟩ := Xs.multianewarray2F hexec hown hclink (va_AOA.use hover) harr (g := F0 m pc ls (.int k :: .int n :: rest)) rfl (by rw [hb]; exact hdg) rfl hn hk hb1 hb2 hb3 hdf hdd hcells hslots
  have ec : some cy = some comp := hcy.symm.trans fC
  cases ec
  generalize hF : Jvm.Free.Multi.fill (T.setVm vm₁) cA cy n.toNatClampNeg k.toNatClampNeg (defaultValue ty) n.toNatClampNeg = F at X' step
  have hTh : (T.setVm vm₁).heap = H := hT
  obtain ⟨f1, f2, -, -⟩ := Jvm.Free.Multi.fill_facts (T.setVm vm₁) cA cy n.toNatClampNeg k.toNatClampNeg (defaultValue ty) n.toNatClampNeg
  rw [hF, hTh] at f1 f2
  have hold : ∀ x : Nat, x < H.size → F.heap[x]? = H[x]? := fun x hx => by
    have := Jvm.Free.Multi.fill_old (T.setVm vm₁) cA cy n.toNatClampNeg k.toNatClampNeg (defaultValue ty) (a := x) (by rw [hTh]; exact hx) n.toNatClampNeg
    rw [hF, hTh] at this
    exact this
  have hrow : ∀ j : Nat, j < n.toNatClampNeg → F.heap[H.size + 1 + j]? = some (vp_cell cy z) := fun j hj => by
    have := Jvm.Free.Multi.fill_inner (T.setVm vm₁) cA cy n.toNatClampNeg k.toNatClampNeg (defaultValue ty) n.toNatClampNeg j hj
    rw [hF, hTh, hz] at this
    exact this
  have hout : Jvm.Free.Multi.outerC cA n.toNatClampNeg H.size n.toNatClampNeg = vp_cell cA (n.toNatClampNeg, .inr (.inr (.inr (.inr (fun i => if i < n.toNatClampNeg then some (H.size + 1 + i) else none))))) := by
    rw [vp_cell_q]
    exact vr_outer cA n.toNatClampNeg H.size n.toNatClampNeg
  rw [hout] at f2
  have hlt : ∀ a, a ∈ L → a < H.size := fun a ha => by
    obtain ⟨k9, hk9⟩ := va_pl_get (X := X) (f := f) ha
    exact (hP k9 _ hk9).lt
  have hnl : ∀ i : Nat, i < n.toNatClampNeg → H.size + 1 + i ∉ L := fun i _ h => by
    have := hlt _ h
    omega
  have hnm : ∀ a, a ∈ (List.range n.toNatClampNeg).map (fun i => H.size + 1 + i) → a ∉ L := fun a ha h => by
    obtain ⟨i, -, rfl⟩ := List.mem_map.mp ha
    have := hlt _ h
    omega
  have hP0 : va_P D cl (X ++ va_pl L f) F.heap := hP.kept (fun k9 x hx => hold x.1 ((hP k9 x hx).lt))
  have hP1 : va_P D cl ((X ++ va_pl L f) ++ [(H.size, .inl (cA, n.toNatClampNeg, .inr (.inr (.inr (.inr (fun i => if i < n.toNatClampNeg then some (H.size + 1 + i) else none))))))]) F.heap := hP0.app (fun k9 x hx => by
    have h0 : k9 < 1 := (List.getElem?_eq_some_iff.mp hx).1
    rw [show k9 = 0 by omega] at hx
    cases hx
    exact f2)
  have hP2 : va_P D cl (((X ++ va_pl L f) ++ [(H.size, .inl (cA, n.toNatClampNeg, .inr (.inr (.inr (.inr (fun i => if i < n.toNatClampNeg then some (H.size + 1 + i) else none))))))]) ++ ((List.range n.toNatClampNeg).map (fun i => H.size + 1 + i)).map (fun a => (a, .inl (cy, z)))) F.heap := hP1.app (fun k9 x hx => by
    obtain ⟨a, ha, rfl⟩ := List.mem_map.mp (List.mem_of_getElem? hx)
    obtain ⟨i, hi, rfl⟩ := List.mem_map.mp ha
    exact hrow i (List.mem_range.mp hi))
  have hD2 : va_D A (((X ++ va_pl L f) ++ [(H.size, .inl (cA, n.toNatClampNeg, .inr (.inr (.inr (.inr (fun i => if i < n.toNatClampNeg then some (H.size + 1 + i) else none))))))]) ++ ((List.range n.toNatClampNeg).map (fun i => H.size + 1 + i)).map (fun a => (a, .inl (cy, z)))) := by
    have hD1 := hD.push (e := .inl (cA, n.toNatClampNeg, .inr (.inr (.inr (.inr (fun i => if i < n.toNatClampNeg then some (H.size + 1 + i) else none)))))) hP rfl (hA _ hS.1)
    generalize hW1 : (X ++ va_pl L f) ++ [(H.size, .inl (cA, n.toNatClampNeg, .inr (.inr (.inr (.inr (fun i => if i < n.toNatClampNeg then some (H.size + 1 + i) else none))))))] = W1 at hD1 hP1 ⊢
    have hle : ∀ (k9 : Nat) (x : Nat × va_E), W1[k9]? = some x → x.1 ≤ H.size := fun k9 x hx => by
      rw [← hW1] at hx
      by_cases hl : k9 < (X ++ va_pl L f).length
      · rw [List.getElem?_append_left hl] at hx
        exact Nat.le_of_lt ((hP k9 x hx).lt)
      · rw [List.getElem?_append_right (by omega)] at hx
        have h0 : k9 - (X ++ va_pl L f).length < 1 := (List.getElem?_eq_some_iff.mp hx).1
        rw [show k9 - (X ++ va_pl L f).length = 0 by omega] at hx
        cases hx
        exact Nat.le_refl _
    have hr : ∀ (k9 : Nat) (x : Nat × va_E), (((List.range n.toNatClampNeg).map (fun i => H.size + 1 + i)).map (fun a => ((a, .inl (cy, z)) : Nat × va_E)))[k9]? = some x → x.1 = H.size + 1 + k9 := fun k9 x hx => by
      rw [List.getElem?_map, List.getElem?_map] at hx
      by_cases h9 : k9 < n.toNatClampNeg
      · rw [List.getElem?_range h9] at hx
        cases hx
        rfl
      · have hn0 : (List.range n.toNatClampNeg)[k9]? = none := List.getElem?_eq_none (by rw [List.length_range]; omega)
        rw [hn0] at hx
        cases hx
    refine ⟨fun i j x y hi hj hxy => ?_, fun k9 x hx => ?_⟩
    · by_cases h1 : i < W1.length <;> by_cases h2 : j < W1.length
      · rw [List.getElem?_append_left h1] at hi
        rw [List.getElem?_append_left h2] at hj
        exact hD1.1 i j x y hi hj hxy
      · rw [List.getElem?_append_left h1] at hi
        rw [List.getElem?_append_right (by omega)] at hj
        have := hle _ _ hi
        have := hr _ _ hj
        omega
      · rw [List.getElem?_append_right (by omega)] at hi
        rw [List.getElem?_append_left h2] at hj
        have := hle _ _ hj
        have := hr _ _ hi
        omega
      · rw [List.getElem?_append_right (by omega)] at hi hj
        have := hr _ _ hi
        have := hr _ _ hj
        omega
    · by_cases h1 : k9 < W1.length
      · rw [List.getElem?_append_left h1] at hx
        exact hD1.2 k9 x hx
      · rw [List.getElem?_append_right (by omega)] at hx
        have := hr _ _ hx
        exact hA _ (by have := hS.1; omega)
  have hAr : ArrOfT s cA (.array ty) := fun N9 z9 => by
    obtain ⟨-, k9, hk9, cm9, hkk9⟩ := (hO 0 0 0).1
    exact ⟨(fun q hq => by cases hq), k9, hk9, cm9, hkk9⟩
  have hK2 : va_K D cl (tys ++ [(cA, .array ty)]) s := ⟨hK.1, fun k9 x hx => by
    by_cases hl : k9 < tys.length
    · rw [List.getElem?_append_left hl] at hx
      exact hK.2 k9 x hx
    · rw [List.getElem?_append_right (by omega)] at hx
      have h0 : k9 - tys.length < 1 := (List.getElem?_eq_some_iff.mp hx).1
      rw [show k9 - tys.length = 0 by omega] at hx
      cases hx
      exact ⟨hAr, fA⟩⟩
  obtain ⟨t, a1, b1⟩ := kk H.size (fun i => H.size + 1 + i) cA F.heap (fun i j _ _ h => by have h9 : H.size + 1 + i = H.size + 1 + j := h; omega) hnl hK2 (by rw [← vr_rows hnm]; exact vr_lay hP2) (by rw [← vr_rows hnm]; exact vr_layD hD2) ⟨by rw [f1]; have := hS.1; omega, fun x h1 h2 => (hold x (Nat.lt_of_lt_of_le h1 hS.1)).trans (hS.2.1 x h1 h2), hS.2.2⟩ F rfl X'
  refine ⟨t, step t ?_, b1⟩
  have e : T.heap.size = H.size := by rw [hT]
  rw [e]
  exact a1
end VGM
/-! ===== END ===== -/

/-! ===== BEGIN exceptions that leave a method, and their catching by the caller (launches without stack traces) ===== -/
section VXA
/-! The laws vx_back, vx_callV, vx_callS, vx_callSW, vx_throw0, vx_throwS follow proofs of the library, with one case more: JvmDerived/Free/Laws.lean (Back.of_free), Shelf42/LK1.lean (callV, callS), Shelf/KitTraced.lean (throwNew0V, throwNewS). -/
/-- where a method has thrown q: the class by its name, the cell, what was written, the world -/
def vx_T (XC : String → State → State → Prop) (st : State) (q : Addr) (t : State) (mc ms : Nat) (free : Addr → Prop) : Prop :=
  ∃ (E : String) (ce : Cell) (L : List Loc), XC E st t ∧ t.heap[q]? = some ce ∧ ce.vm = .none ∧ st.vm.findClass E = some ce.cls ∧ st.WarmedH t.vm ∧ st.sameButNew ({ t with vm := st.vm } : State) L mc ms ∧ ∀ z ∈ L, free z.base
def vx_Q (Qc : Array Value → State → Outcome → State → Prop) (XC : String → State → State → Prop) (mc ms : Nat) (free : Addr → Prop) : Array Value → State → Outcome → State → Prop := fun a st o t =>
  (Qc a st o t ∧ ∃ L, FrameEnd st o t L mc ms ∧ ∀ q ∈ L, free q.base) ∨ ∃ q, o = .threw q ∧ vx_T XC st q t mc ms free
/-- a callee that returns or throws -/
def vx_Met (l : Launch) (y : MethodName) (ws : List Cond) (rm : Room) (Pc : Array Value → State → Prop) (Qc : Array Value → State → Outcome → State → Prop) (XC : String → State → State → Prop) (mc ms : Nat) (free : Addr → Prop) : Prop :=
  MetFree l y (headSpec ws rm) Pc (fun _ _ _ _ _ => True) (vx_Q Qc XC mc ms free)
def vx_Post (XC : String → State → State → Prop) (mc ms : Nat) (free : Addr → Prop) : Pt → Array Value → Addr → Pt → Prop := fun A a q B =>
  ∃ (g : JFrame) (mk : MethodId) (t : State) (L : List Loc) (E : String) (ce : Cell), B.U.heap = t.heap ∧ B.U.vm = t.vm ∧ XC E (A.U.calling g mk a) t ∧ t.heap[q]? = some ce ∧ ce.vm = .none ∧ A.U.vm.findClass E = some ce.cls ∧ B.locs = A.locs ++ L ∧ (∀ z ∈ L, free z.base) ∧ B.cells = A.cells + mc ∧ B.slots = A.slots + ms
def vx_Back (l : Launch) (R : Room) (p : Program) (e : Env) (below : List Frame) (s : State) (sargs : Array Value) (y : MethodName) (len W9 : Nat)
    (Pre : Pt → Array Value → Prop) (Post : Pt → Array Value → Option Value → Pt → Prop) (PostX : Pt → Array Value → Addr → Pt → Prop) : Prop :=
  ∀ (m : MethodId) (meth : Method) (c : Code) (A : Pt) (g : JFrame) (ig : Instr) (mk : MethodId) (a : Array Value),
    Stand p l e R s m sargs below meth c A.U A.locs A.cells A.slots → g.method = m → g.locals.size = c.maxLocals → decode c.code g.pc = .ok (ig, len) →
    2 * g.monitorRoom + (g.stack.map fun v => v.category).sum ≤ W9 → A.U.methodNamed? y = some mk → Pre A a →
    (∃ (v : Option Value) (B : Pt), Stand p l e R s m sargs below meth c B.U B.locs B.cells B.slots ∧ Post A a v B ∧
      Steps p.tables e below (doInvoke e (A.U.setTop g) [] mk a).1 (B.U.setTop { g with pc := g.pc + len, stack := v.toList ++ g.stack })) ∨
    (∃ (q : Addr) (B : Pt), Stand p l e R s m sargs below meth c B.U B.locs B.cells B.slots ∧ PostX A a q B ∧
      Steps p.tables e below (doInvoke e (A.U.setTop g) [] mk a).1 ((B.U.setTop g).pushFrame (.throwing q)))
section Payer
variable {l : Launch} {R : Room} {p : Program} {e : Env} {below : List Frame} {s : State} {sargs : Array Value} {y : MethodName} {len W9 : Nat}
theorem vx_back {ws : List Cond} {rm : Room} {Pc : Array Value → State → Prop} {Qc : Array Value → State → Outcome → State → Prop} {XC : String → State → State → Prop} {mc ms : Nat} {free : Addr → Prop} {bytes : ByteArray} {maxL : Nat} {ret : Option FieldType}
    (hM : vx_Met l y ws rm Pc Qc XC mc ms free) (hblind : FrameBlind Pc) (hrc : rm.cells = mc) (hrs : rm.slots = ms)
    (hframes : rm.frames + 1 ≤ R.frames) (hlocals : W9 + (maxL + 11) + rm.locals ≤ R.locals)
    (hws : ∀ w ∈ ws, ∀ a' U, s.WarmedH U.vm → w.before a' U = true) (hcode : Cond.code y bytes maxL ret ∈ ws) (hinit : ∀ a' U, s.WarmedH U.vm → (Cond.initialized y.cls).before a' U = true) :
    vx_Back l R p e below s sargs y len W9 (PreOf R mc ms Pc) (PostOf Qc mc ms free) (vx_Post XC mc ms free) := by
  intro m meth c A g ig mk a X hg hsize hdg hW hn hp
  have h1 : (headSpec ws rm).pre.before a A.U = true := atoms_intro fun w hw => hws w hw _ _ X.warmed
  have h2 : (Cond.code y bytes maxL ret).before a A.U = true := hws _ hcode _ _ X.warmed
  have h3 : (Cond.initialized y.cls).before a A.U = true := hinit _ _ X.warmed
  have h4 : A.cells + (headSpec ws rm).room.cells ≤ R.cells := by rw [show (headSpec ws rm).room.cells = mc from hrc]; exact hp.1
  have h5 : A.slots + (headSpec ws rm).room.slots ≤ R.slots := by rw [show (headSpec ws rm).room.slots = ms from hrs]; exact hp.2.1
  have hPc : Pc a (A.U.calling g mk a) := hblind _ _ _ _ hp.2.2
  obtain ⟨U, Ls, c0, s0⟩ := A
  dsimp only [Pt.U, Pt.locs, Pt.cells, Pt.slots] at h1 h2 h3 h4 h5 X hn hPc ⊢
  obtain ⟨methY, cY, hmY, hcY, -, hlY, -, -, -, -⟩ := Cond.code_spec hn h2
  obtain ⟨kY, hkY, -⟩ := className_of_methodNamed hn
  have hinitY : kY.init = .initialized := Cond.initialized_spec (findClass_of_methodNamed hn) hkY h3
  have h : At U g.method c below := by rw [hg]; exact X.here
  have hlocals9 : W9 + (maxL + 11) + (headSpec ws rm).room.locals ≤ R.locals := hlocals
  have happ : (headSpec ws rm).appliesLoose y e.platform (U.calling g mk a) = true :=
    Spec.appliesLoose_calling (g := g) h hdg hn hkY hinitY
      (X.room_calling (g := g) (R' := (headSpec ws rm).room) hsize hmY hcY hframes (by rw [hlY]; omega) h4 h5) h1
  obtain ⟨mid, hmid⟩ := h.above
  have hfr : (U.setTop g).frames = (.java g :: mid) ++ below := by rw [State.frames_setTop' g h.top, hmid]; rfl
  obtain ⟨o, s₂, hsteps, -, hend, hq⟩ := Steps.callFree hM p X.admits X.cas X.clock (acts := []) hfr happ hPc trivial
  have hq' : vx_Q Qc XC mc ms free a (U.calling g mk a) o s₂ := hq
  rw [State.frames_setTop' g h.top] at hend
  obtain ⟨g₀, hg0⟩ := Option.isSome_iff_exists.mp h.top
  obtain ⟨r, hr⟩ := State.topJava?_eq_some.mp hg0
  have hr' : (({ U with heap := s₂.heap, slotsUsed := s₂.slotsUsed } : State).setVm s₂.vm).frames = .java g₀ :: r := hr
  rcases hq' with ⟨hqc, L, hfe, hL⟩ | ⟨q, rfl, E, ce, L, hx, hce, hcv, hcl, hW₂, hsm, hL⟩
  · obtain ⟨⟨v, rfl⟩, hW₂, e2, q2, q3, q4, q5, q6⟩ := id hfe
    have e3 : s₂ = ({ (U.calling g mk a).setFrames s₂.frames with heap := s₂.heap, slotsUsed := s₂.slotsUsed } : State).setVm s₂.vm := by
      have : s₂ = ({ s₂ with vm := (U.calling g mk a).vm } : State).setVm s₂.vm := rfl
      rw [e2] at this
      exact this
    obtain ⟨c₂, i₂, len₂, hc₂, hd₂, hf₂⟩ := hend
    have hW' : U.WarmedH s₂.vm := hW₂
    have hcc : c₂ = c := by
      have h1 : s₂.code? g.method = U.code? g.method := by
        rw [State.code?_eq, State.code?_eq, hW'.alike.method?]
      exact Option.some.inj (hc₂.symm.trans (h1.trans h.code))
    subst hcc
    have hlen : len₂ = len := by rw [hdg] at hd₂; cases hd₂; rfl
    subst hlen
    have hs₂ : s₂ = (({ U with heap := s₂.heap, slotsUsed := s₂.slotsUsed } : State).setVm s₂.vm).setTop { g with pc := g.pc + len₂, stack := v.toList ++ g.stack } := by
      refine e3.trans ?_
      rw [hf₂, State.calling_eq h.top, State.setFrames_setFrames, State.setTop_of_frames _ hr', hr]
      rfl
    have hsame : U.sameButNew ({ U with heap := s₂.heap, slotsUsed := s₂.slotsUsed } : State) L mc ms := by
      refine ⟨?_, q2, q3, q4, q5, q6⟩
      obtain ⟨t, ht, -⟩ := State.frames_cons hr
      show ({ U with heap := s₂.heap, slotsUsed := s₂.slotsUsed } : State) = { U.setFrames U.frames with heap := s₂.heap, slotsUsed := s₂.slotsUsed }
      rw [State.setFrames_self ht]
    subst hg
    refine Or.inl ⟨v, ⟨(({ U with heap := s₂.heap, slotsUsed := s₂.slotsUsed } : State).setVm s₂.vm), Ls ++ L, c0 + mc, s0 + ms⟩,
      ⟨X.admits, X.cas, X.clock, X.frames, X.room, X.hears, X.method, X.code, (X.here.setHeapUsed s₂.heap s₂.slotsUsed).setVm hW'.alike, X.tail, State.WarmedH.trans X.warmed hW', X.limits, X.bytes, X.same.trans (hsame.setVm s.vm)⟩,
      ⟨g, mk, s₂, L, rfl, rfl, hqc, rfl, hL, rfl, rfl⟩, ?_⟩
    show Steps p.tables e below _ ((({ U with heap := s₂.heap, slotsUsed := s₂.slotsUsed } : State).setVm s₂.vm).setTop { g with pc := g.pc + len₂, stack := v.toList ++ g.stack })
    rw [← hs₂]
    exact hsteps
  · obtain ⟨e2, q2, q3, q4, q5, q6⟩ := id hsm
    have e3 : s₂ = ({ (U.calling g mk a).setFrames s₂.frames with heap := s₂.heap, slotsUsed := s₂.slotsUsed } : State).setVm s₂.vm := by
      have : s₂ = ({ s₂ with vm := (U.calling g mk a).vm } : State).setVm s₂.vm := rfl
      rw [e2] at this
      exact this
    have hf₂ : s₂.frames = .throwing q :: .java g :: U.frames.tail := hend
    have hW' : U.WarmedH s₂.vm := hW₂
    have hs₂ : s₂ = ((({ U with heap := s₂.heap, slotsUsed := s₂.slotsUsed } : State).setVm s₂.vm).setTop g).pushFrame (.throwing q) := by
      refine e3.trans ?_
      rw [hf₂, State.calling_eq h.top, State.setFrames_setFrames, State.pushFrame, State.frames_setTop _ hr', State.setTop_of_frames _ hr', State.setFrames_setFrames, hr]
      rfl
    have hsame : U.sameButNew ({ U with heap := s₂.heap, slotsUsed := s₂.slotsUsed } : State) L mc ms := by
      refine ⟨?_, q2, q3, q4, q5, q6⟩
      obtain ⟨t, ht, -⟩ := State.frames_cons hr
      show ({ U with heap := s₂.heap, slotsUsed := s₂.slotsUsed } : State) = { U.setFrames U.frames with heap := s₂.heap, slotsUsed := s₂.slotsUsed }
      rw [State.setFrames_self ht]
    subst hg
    refine Or.inr ⟨q, ⟨(({ U with heap := s₂.heap, slotsUsed := s₂.slotsUsed } : State).setVm s₂.vm), Ls ++ L, c0 + mc, s0 + ms⟩,
      ⟨X.admits, X.cas, X.clock, X.frames, X.room, X.hears, X.method, X.code, (X.here.setHeapUsed s₂.heap s₂.slotsUsed).setVm hW'.alike, X.tail, State.WarmedH.trans X.warmed hW', X.limits, X.bytes, X.same.trans (hsame.setVm s.vm)⟩,
      ⟨g, mk, s₂, L, E, ce, rfl, rfl, hx, hce, hcv, hcl, rfl, hL, rfl, rfl⟩, ?_⟩
    show Steps p.tables e below _ (((({ U with heap := s₂.heap, slotsUsed := s₂.slotsUsed } : State).setVm s₂.vm).setTop g).pushFrame (.throwing q))
    rw [← hs₂]
    exact hsteps
end Payer
section Calls
variable {p : Program} {l : Launch} {e : Env} {R : Room} {s : State} {m : MethodId} {args : Array Value} {below : List Frame} {meth : Method} {c : Code} {T : State} {locs : List Loc} {cells slots : Nat}
theorem vx_callV (X : Stand p l e R s m args below meth c T locs cells slots) (hexec : p.tables.exec = Jvm.exec) {own C : String} {index : Nat} {y : MethodName} {bytes : ByteArray} {maxL : Nat} {ret : Option FieldType}
    (hown : s.vm.findClass own = some m.cls) (hlink : (Cond.methodLink own index y).before args s = true) (hinst : (Cond.instanceMethod y).before args s = true) (hsel : (Cond.selects C y y).before args s = true)
    (hcode : (Cond.code y bytes maxL ret).before args s = true) (hy : y.cls ≠ "java/lang/invoke/MethodHandle" ∧ y.cls ≠ "java/lang/invoke/VarHandle")
    {W9 : Nat} {Pre : Pt → Array Value → Prop} {Post : Pt → Array Value → Option Value → Pt → Prop} {PostX : Pt → Array Value → Addr → Pt → Prop} (hK : vx_Back l R p e below s args y 3 W9 Pre Post PostX)
    {b : Addr} {cellB : Cell} (hcell : T.heap[b]? = some cellB) (hobj : cellB.vm.isStatics = false) (hcls : s.vm.findClass C = some cellB.cls)
    {g : JFrame} (hg : g.method = m) (hsize : g.locals.size = c.maxLocals) {argsL rest : List Value} (hlen : ∀ sig, parseMethodDescriptor y.desc = some sig → argsL.length = sig.parameters.length)
    (hstack : g.stack = argsL.reverse ++ .ref b :: rest) (hW : 2 * g.monitorRoom + (rest.map fun v => v.category).sum ≤ W9) (hdg : decode c.code g.pc = .ok (.invokevirtual index, 3))
    (hpre : ∀ vm₁, s.WarmedH vm₁ → Pre ⟨T.setVm vm₁, locs, cells, slots⟩ (Value.ref b :: argsL).toArray) :
    (∃ (v : Option Value) (vm₁ : Vm) (B : Pt), s.WarmedH vm₁ ∧ Stand p l e R s m args below meth c B.U B.locs B.cells B.slots ∧ Post ⟨T.setVm vm₁, locs, cells, slots⟩ (Value.ref b :: argsL).toArray v B ∧
      ∀ target, Steps p.tables e below (B.U.setTop { g with pc := g.pc + 3, stack := v.toList ++ rest }) target → Steps p.tables e below (T.setTop g) target) ∨
    (∃ (q : Addr) (vm₁ : Vm) (B : Pt), s.WarmedH vm₁ ∧ Stand p l e R s m args below meth c B.U B.locs B.cells B.slots ∧ PostX ⟨T.setVm vm₁, locs, cells, slots⟩ (Value.ref b :: argsL).toArray q B ∧
      Steps p.tables e below (T.setTop g) ((B.U.setTop { g with stack := rest }).pushFrame (.throwing q))) := by
  obtain ⟨mk, methM, hnamed, hmethM, hstM, habM⟩ := Cond.instanceMethod_spec hinst
  obtain ⟨methM', cM, hmethM', -, -, -, -, -, -, hsigM⟩ := Cond.code_spec hnamed hcode
  cases hmethM.symm.trans hmethM'
  obtain ⟨c2, r2, m2, q1, q2, q3, q4, kP, hkP, hkPi⟩ := Cond.selects_spec hsel
  cases hcls.symm.trans q1
  cases (State.methodFound?_of_named hnamed hy).symm.trans q2
  cases hnamed.symm.trans q3
  have hselP : selectMethod e.platform s.vm cellB.cls mk = .method mk := by rw [Launch.admits_selectMethod X.admits]; exact q4
  obtain ⟨vm₁, X₁, hstep₁⟩ := X.invokevirtual hexec hown hlink hnamed hmethM hstM hkP hkPi hy (a := b) (cell := cellB) hcell
    (fun z h => by rw [h] at hobj; cases hobj) hselP hmethM habM hkP hkPi (g := g) hg (argsL := argsL) (rest := rest) (hlen _ hsigM) hstack hdg
  rcases hK m meth c ⟨T.setVm vm₁, locs, cells, slots⟩ { g with stack := rest } (.invokevirtual index) mk (Value.ref b :: argsL).toArray X₁ hg hsize hdg hW (X₁.named hnamed) (hpre vm₁ X₁.warmed) with ⟨v, B, X', hpost, hsteps⟩ | ⟨q, B, X', hpost, hsteps⟩
  · exact Or.inl ⟨v, vm₁, B, X₁.warmed, X', hpost, fun target h => hstep₁ _ fun acts => by rw [doInvoke_state]; exact hsteps.trans h⟩
  · exact Or.inr ⟨q, vm₁, B, X₁.warmed, X', hpost, hstep₁ _ fun acts => by rw [doInvoke_state]; exact hsteps⟩
theorem vx_callS (X : Stand p l e R s m args below meth c T locs cells slots) (hexec : p.tables.exec = Jvm.exec) {own : String} {index : Nat} {y : MethodName} {bytes : ByteArray} {maxL : Nat} {ret : Option FieldType}
    (hown : s.vm.findClass own = some m.cls) (hlink : (Cond.methodLink own index y).before args s = true) (hstat : (Cond.static y).before args s = true) (hinit : (Cond.initialized y.cls).before args s = true)
    (hcode : (Cond.code y bytes maxL ret).before args s = true) (hy : y.cls ≠ "java/lang/invoke/MethodHandle" ∧ y.cls ≠ "java/lang/invoke/VarHandle")
    {W9 : Nat} {Pre : Pt → Array Value → Prop} {Post : Pt → Array Value → Option Value → Pt → Prop} {PostX : Pt → Array Value → Addr → Pt → Prop} (hK : vx_Back l R p e below s args y 3 W9 Pre Post PostX)
    {g : JFrame} (hg : g.method = m) (hsize : g.locals.size = c.maxLocals) {argsL rest : List Value} (hlen : ∀ sig, parseMethodDescriptor y.desc = some sig → argsL.length = sig.parameters.length)
    (hstack : g.stack = argsL.reverse ++ rest) (hW : 2 * g.monitorRoom + (rest.map fun v => v.category).sum ≤ W9) (hdg : decode c.code g.pc = .ok (.invokestatic index, 3))
    (hpre : ∀ vm₁, s.WarmedH vm₁ → Pre ⟨T.setVm vm₁, locs, cells, slots⟩ argsL.toArray) :
    (∃ (v : Option Value) (vm₁ : Vm) (B : Pt), s.WarmedH vm₁ ∧ Stand p l e R s m args below meth c B.U B.locs B.cells B.slots ∧ Post ⟨T.setVm vm₁, locs, cells, slots⟩ argsL.toArray v B ∧
      ∀ target, Steps p.tables e below (B.U.setTop { g with pc := g.pc + 3, stack := v.toList ++ rest }) target → Steps p.tables e below (T.setTop g) target) ∨
    (∃ (q : Addr) (vm₁ : Vm) (B : Pt), s.WarmedH vm₁ ∧ Stand p l e R s m args below meth c B.U B.locs B.cells B.slots ∧ PostX ⟨T.setVm vm₁, locs, cells, slots⟩ argsL.toArray q B ∧
      Steps p.tables e below (T.setTop g) ((B.U.setTop { g with stack := rest }).pushFrame (.throwing q))) := by
  obtain ⟨mk, hnamed⟩ := Cond.code_named hcode
  obtain ⟨methM, cM, hmethM, -, -, -, -, -, -, hsigM⟩ := Cond.code_spec hnamed hcode
  have hstatic : methM.isStatic = true := Cond.static_spec hnamed hmethM hstat
  obtain ⟨kP, hkP, -⟩ := className_of_methodNamed hnamed
  have hinitP : kP.init = .initialized := Cond.initialized_spec (findClass_of_methodNamed hnamed) hkP hinit
  obtain ⟨vm₁, X₁, hstep₁⟩ := X.invokestatic hexec hown hlink hnamed hmethM hstatic hkP hinitP hy (g := g) hg (argsL := argsL) (rest := rest) (hlen _ hsigM) hstack hdg
  rcases hK m meth c ⟨T.setVm vm₁, locs, cells, slots⟩ { g with stack := rest } (.invokestatic index) mk argsL.toArray X₁ hg hsize hdg hW (X₁.named hnamed) (hpre vm₁ X₁.warmed) with ⟨v, B, X', hpost, hsteps⟩ | ⟨q, B, X', hpost, hsteps⟩
  · exact Or.inl ⟨v, vm₁, B, X₁.warmed, X', hpost, fun target h => hstep₁ _ fun acts => by rw [doInvoke_state]; exact hsteps.trans h⟩
  · exact Or.inr ⟨q, vm₁, B, X₁.warmed, X', hpost, hstep₁ _ fun acts => by rw [doInvoke_state]; exact hsteps⟩
end Calls
theorem vx_cls {s : State} {T : State} {vm₁ : Vm} {E : String} {k : ClassId} (hW : s.WarmedH vm₁) (h : (T.setVm vm₁).vm.findClass E = some k) : s.vm.findClass E = some k := by
  have h1 : vm₁.findClass E = some k := h
  rw [hW.alike.findClass] at h1
  exact h1
/-- the method's frame g, with q thrown over it -/
def vx_W (p : Program) (l : Launch) (e : Env) (R : Room) (s : State) (m : MethodId) (args : Array Value) (below : List Frame) (meth : Method) (c : Code) (H : Heap) (locs : List Loc) (cells slots : Nat) (Q : State → Prop) (g : JFrame) (q : Addr) : Prop :=
  ∀ T : State, T.heap = H → Stand p l e R s m args below meth c T locs cells slots → ∃ t, Steps p.tables e below ((T.setTop g).pushFrame (.throwing q)) t ∧ Q t
def vx_Run (p : Program) (l : Launch) (e : Env) (R : Room) (s : State) (m : MethodId) (args : Array Value) (below : List Frame) (meth : Method) (c : Code) (H : Heap) (locs : List Loc) (cells slots mc ms : Nat) (g : JFrame) (rest : List Value) (Qa : State → Outcome → State → Prop) (XC : String → State → State → Prop) (free : Addr → Prop) : Prop :=
  ∀ T : State, T.heap = H → Stand p l e R s m args below meth c T locs cells slots →
    (∃ (v : Option Value) (st₀ t T' : State) (L : List Loc), st₀.heap = H ∧ Stand p l e R s m args below meth c T' (locs ++ L) (cells + mc) (slots + ms) ∧ (∀ q ∈ L, free q.base) ∧ T'.heap = t.heap ∧ T'.vm = t.vm ∧ Qa st₀ (.returned v) t ∧
      Goes p e below T g T' { g with pc := g.pc + 3, stack := v.toList ++ rest }) ∨
    (∃ (q : Addr) (st₀ t T' : State) (L : List Loc) (E : String) (ce : Cell), st₀.heap = H ∧ Stand p l e R s m args below meth c T' (locs ++ L) (cells + mc) (slots + ms) ∧ (∀ z ∈ L, free z.base) ∧ T'.heap = t.heap ∧ T'.vm = t.vm ∧ XC E st₀ t ∧ t.heap[q]? = some ce ∧ ce.vm = .none ∧ s.vm.findClass E = some ce.cls ∧
      Steps p.tables e below (T.setTop g) ((T'.setTop { g with stack := rest }).pushFrame (.throwing q)))
def vx_X {S : Type} (px : S → Prop) (B : String → S → State → Prop) (A : Nat → Prop) : String → State → State → Prop := fun E st t => ∃ u : S, px u ∧ B E u t ∧ va_F A st t
section Runs
variable {p : Program} {l : Launch} {e : Env} {R : Room} {s : State} {m : MethodId} {args : Array Value} {below : List Frame} {meth : Method} {c : Code} {H : Heap} {locs : List Loc} {cells slots : Nat}
variable {y : MethodName} {bytes cc : ByteArray} {maxL nL mc ms n index : Nat} {ret : Option FieldType} {ws : List Cond} {rm : Room} {Pc : Array Value → State → Prop} {Qc : Array Value → State → Outcome → State → Prop} {XC : String → State → State → Prop} {free : Addr → Prop} {Ts : List Cond} {own C : String} {b : Addr} {As rest : List Value} {g : JFrame}
theorem vx_callBack (cb : CallB R s args own index y bytes maxL ret ws rm mc ms n) (hM : vx_Met l y ws rm Pc Qc XC mc ms free) (hbl : FrameBlind Pc) : vx_Back l R p e below s args y 3 8 (PreOf R mc ms Pc) (PostOf Qc mc ms free) (vx_Post XC mc ms free) := by
  obtain ⟨hrc, hrs, hfr, hlo, hws, hcw, -, hini, -⟩ := cb
  exact vx_back (bytes := bytes) (maxL := maxL) (ret := ret) hM hbl hrc hrs hfr hlo hws hcw (fun a' U hW => word_at hW (Or.inl (by first | rfl | simp [Cond.onTables, Cond.keeps, Cond.steady])) hini)
theorem vx_runV (S : CallFix p m c cc nL s args Ts own) (hM : vx_Met l y ws rm Pc Qc XC mc ms free) (cw : CallW R s args own C index y bytes maxL ret ws rm mc ms n) (hp : PreV s H C b Pc As)
    (hg : g.method = m) (hn : As.length = n) (hsize : g.locals.size = nL) (hstack : g.stack = As.reverse ++ .ref b :: rest) (hW : 2 * g.monitorRoom + (rest.map fun v => v.category).sum ≤ 8) (hdg : decode cc g.pc = .ok (.invokevirtual index, 3)) (hf : cells + mc ≤ R.cells ∧ slots + ms ≤ R.slots) :
    vx_Run p l e R s m args below meth c H locs cells slots mc ms g rest (Qc (Value.ref b :: As).toArray) XC free := by
  have hK : vx_Back l R p e below s args y 3 8 (PreOf R mc ms Pc) (PostOf Qc mc ms free) (vx_Post XC mc ms free) := vx_callBack cw.1 hM hp.1
  obtain ⟨⟨-, -, -, -, -, -, hcode, -, hy, hlen, hl⟩, hin, hse⟩ := cw
  obtain ⟨hx, hb, hml, ho, -⟩ := S
  obtain ⟨-, ⟨cellB, hcB, hoB, hclB⟩, hPc⟩ := hp
  intro T hT X
  rcases vx_callV X hx (C := C) (bytes := bytes) (maxL := maxL) (ret := ret) ho hl hin hse hcode hy hK (by rw [hT]; exact hcB) hoB hclB hg (hsize.trans hml.symm) (argsL := As) (rest := rest) (fun sig h => hn.trans (hlen sig h)) hstack hW (by rw [hb]; exact hdg)
    (fun vm₁ hW₁ => ⟨hf.1, hf.2, hPc (T.setVm vm₁) hT hW₁⟩) with ⟨v, vm₁, ⟨U', l2, c2, s2⟩, hW₁, X', ⟨g', mk, t, L, e1, e2, hq, h1, hL, h2, h3⟩, st⟩ | ⟨q, vm₁, ⟨U', l2, c2, s2⟩, hW₁, X', ⟨g', mk, t, L, E, ce, e1, e2, hq, hce, hcv, hcl, h1, hL, h2, h3⟩, st⟩
  · dsimp only [Pt.U, Pt.locs, Pt.cells, Pt.slots] at X' e1 e2 h1 h2 h3 st
    subst h1; subst h2; subst h3
    exact Or.inl ⟨v, (T.setVm vm₁).calling g' mk (Value.ref b :: As).toArray, t, U', L, hT, X', hL, e1, e2, hq, st⟩
  · dsimp only [Pt.U, Pt.locs, Pt.cells, Pt.slots] at X' e1 e2 h1 h2 h3 st hcl
    subst h1; subst h2; subst h3
    exact Or.inr ⟨q, (T.setVm vm₁).calling g' mk (Value.ref b :: As).toArray, t, U', L, E, ce, hT, X', hL, e1, e2, hq, hce, hcv, vx_cls hW₁ hcl, st⟩
theorem vx_runS (S : CallFix p m c cc nL s args Ts own) (hM : vx_Met l y ws rm Pc Qc XC mc ms free) (cw : CallB R s args own index y bytes maxL ret ws rm mc ms n ∧ (Cond.static y).before args s = true) (hp : PreS s H Pc As)
    (hg : g.method = m) (hn : As.length = n) (hsize : g.locals.size = nL) (hstack : g.stack = As.reverse ++ rest) (hW : 2 * g.monitorRoom + (rest.map fun v => v.category).sum ≤ 8) (hdg : decode cc g.pc = .ok (.invokestatic index, 3)) (hf : cells + mc ≤ R.cells ∧ slots + ms ≤ R.slots) :
    vx_Run p l e R s m args below meth c H locs cells slots mc ms g rest (Qc As.toArray) XC free := by
  have hK : vx_Back l R p e below s args y 3 8 (PreOf R mc ms Pc) (PostOf Qc mc ms free) (vx_Post XC mc ms free) := vx_callBack cw.1 hM hp.1
  obtain ⟨⟨-, -, -, -, -, -, hcode, hini, hy, hlen, hl⟩, hstt⟩ := cw
  obtain ⟨hx, hb, hml, ho, -⟩ := S
  intro T hT X
  rcases vx_callS X hx (bytes := bytes) (maxL := maxL) (ret := ret) ho hl hstt hini hcode hy hK hg (hsize.trans hml.symm) (argsL := As) (rest := rest) (fun sig h => hn.trans (hlen sig h)) hstack hW (by rw [hb]; exact hdg)
    (fun vm₁ hW₁ => ⟨hf.1, hf.2, hp.2 (T.setVm vm₁) hT hW₁⟩) with ⟨v, vm₁, ⟨U', l2, c2, s2⟩, hW₁, X', ⟨g', mk, t, L, e1, e2, hq, h1, hL, h2, h3⟩, st⟩ | ⟨q, vm₁, ⟨U', l2, c2, s2⟩, hW₁, X', ⟨g', mk, t, L, E, ce, e1, e2, hq, hce, hcv, hcl, h1, hL, h2, h3⟩, st⟩
  · dsimp only [Pt.U, Pt.locs, Pt.cells, Pt.slots] at X' e1 e2 h1 h2 h3 st
    subst h1; subst h2; subst h3
    exact Or.inl ⟨v, (T.setVm vm₁).calling g' mk As.toArray, t, U', L, hT, X', hL, e1, e2, hq, st⟩
  · dsimp only [Pt.U, Pt.locs, Pt.cells, Pt.slots] at X' e1 e2 h1 h2 h3 st hcl
    subst h1; subst h2; subst h3
    exact Or.inr ⟨q, (T.setVm vm₁).calling g' mk As.toArray, t, U', L, E, ce, hT, X', hL, e1, e2, hq, hce, hcv, vx_cls hW₁ hcl, st⟩
end Runs
section Rows
variable {p : Program} {l : Launch} {e : Env} {R : Room} {s : State} {m : MethodId} {args : Array Value} {below : List Frame} {meth : Method} {c : Code} {H : Heap} {locs : List Loc} {cells slots : Nat} {Q : State → Prop}
variable {mc ms : Nat} {free : Addr → Prop} {A0 A1 : Nat → Prop} {H0 : Heap} {a : Array Value} {pc : Nat} {ls : Array Slot} {st0 rest : List Value}
theorem vx_keep {st₀ t T' : State} {L : List Loc} (h0 : st₀.heap = H) (e1 : T'.heap = t.heap) (hS : va_S A0 H0 H locs) (hA : ∀ q, q < H.size → A1 q → A0 q) (hf : ∀ q, free q → A0 q) (hL : ∀ q ∈ L, free q.base) (hF : va_F A1 st₀ t) :
    H.size ≤ T'.heap.size ∧ (∀ q : Nat, q < H.size → ¬ A1 q → T'.heap[q]? = H[q]?) ∧ va_S A0 H0 T'.heap (locs ++ L) := by
  obtain ⟨hz, hk⟩ := hF
  rw [h0] at hz hk
  exact ⟨by rw [e1]; exact hz, fun q h1 h2 => by rw [e1]; exact hk q h1 h2,
    ⟨Nat.le_trans hS.1 (by rw [e1]; exact hz), fun q h1 h2 => by rw [e1, hk q (Nat.lt_of_lt_of_le h1 hS.1) (fun z => h2 (hA q (Nat.lt_of_lt_of_le h1 hS.1) z))]; exact hS.2.1 q h1 h2, fun q hq => by
      rcases List.mem_append.mp hq with h | h
      · exact hS.2.2 q h
      · exact hf _ (hL q h)⟩⟩
theorem vx_calli {S SX : Type} {post : Int32 → S → Prop} {px : SX → Prop} {B : S → State → Prop} {BX : String → SX → State → Prop} {AX : Nat → Prop} (hr : vx_Run p l e R s m args below meth c H locs cells slots mc ms (F0 m pc ls st0) rest (va_Qi post B A1 a) (vx_X px BX AX) free) (hS : va_S A0 H0 H locs) (hA : ∀ q, q < H.size → A1 q → A0 q) (hf : ∀ q, free q → A0 q) (hAX : ∀ q, q < H.size → AX q → A0 q)
    (kx : ∀ (E : String) (ce : Cell) (q9 : Addr) (u : SX) (t : State) (H1 : Heap) (locs1 : List Loc), t.heap = H1 → s.vm.Alike t.vm → px u → BX E u t → H.size ≤ H1.size → (∀ q : Nat, q < H.size → ¬ AX q → H1[q]? = H[q]?) → va_S A0 H0 H1 locs1 → H1[q9]? = some ce → ce.vm = .none → s.vm.findClass E = some ce.cls → vx_W p l e R s m args below meth c H1 locs1 (cells + mc) (slots + ms) Q (F0 m pc ls rest) q9)
    (kk : ∀ (r : Int32) (u : S) (t : State) (H1 : Heap) (locs1 : List Loc), t.heap = H1 → s.vm.Alike t.vm → post r u → B u t → H.size ≤ H1.size → (∀ q : Nat, q < H.size → ¬ A1 q → H1[q]? = H[q]?) → va_S A0 H0 H1 locs1 → W p l e R s m args below meth c H1 locs1 (cells + mc) (slots + ms) Q (F0 m (pc + 3) ls (.int r :: rest))) : W p l e R s m args below meth c H locs cells slots Q (F0 m pc ls st0) := by
  intro T hT X
  rcases hr T hT X with ⟨v, st₀, t, T', L, h0, X', hL, e1, e2, ⟨⟨r, u, hv, hp, hb⟩, hF⟩, st⟩ | ⟨q, st₀, t, T', L, E, ce, h0, X', hL, e1, e2, ⟨u, hp, hb, hF⟩, hce, hcv, hcl, st⟩
  · cases hv
    obtain ⟨k1, k2, k3⟩ := vx_keep h0 e1 hS hA hf hL hF
    obtain ⟨t2, a1, b1⟩ := kk r u t T'.heap (locs ++ L) e1.symm (by rw [← e2]; exact X'.warmed.alike) hp hb k1 k2 k3 T' rfl X'
    exact ⟨t2, st t2 a1, b1⟩
  · obtain ⟨k1, k2, k3⟩ := vx_keep h0 e1 hS hAX hf hL hF
    obtain ⟨t2, a1, b1⟩ := kx E ce q u t T'.heap (locs ++ L) e1.symm (by rw [← e2]; exact X'.warmed.alike) hp hb k1 k2 k3 (by rw [e1]; exact hce) hcv hcl T' rfl X'
    exact ⟨t2, st.trans a1, b1⟩
theorem vx_calll {S SX : Type} {post : Int64 → S → Prop} {px : SX → Prop} {B : S → State → Prop} {BX : String → SX → State → Prop} {AX : Nat → Prop} (hr : vx_Run p l e R s m args below meth c H locs cells slots mc ms (F0 m pc ls st0) rest (va_Ql post B A1 a) (vx_X px BX AX) free) (hS : va_S A0 H0 H locs) (hA : ∀ q, q < H.size → A1 q → A0 q) (hf : ∀ q, free q → A0 q) (hAX : ∀ q, q < H.size → AX q → A0 q)
    (kx : ∀ (E : String) (ce : Cell) (q9 : Addr) (u : SX) (t : State) (H1 : Heap) (locs1 : List Loc), t.heap = H1 → s.vm.Alike t.vm → px u → BX E u t → H.size ≤ H1.size → (∀ q : Nat, q < H.size → ¬ AX q → H1[q]? = H[q]?) → va_S A0 H0 H1 locs1 → H1[q9]? = some ce → ce.vm = .none → s.vm.findClass E = some ce.cls → vx_W p l e R s m args below meth c H1 locs1 (cells + mc) (slots + ms) Q (F0 m pc ls rest) q9)
    (kk : ∀ (r : Int64) (u : S) (t : State) (H1 : Heap) (locs1 : List Loc), t.heap = H1 → s.vm.Alike t.vm → post r u → B u t → H.size ≤ H1.size → (∀ q : Nat, q < H.size → ¬ A1 q → H1[q]? = H[q]?) → va_S A0 H0 H1 locs1 → W p l e R s m args below meth c H1 locs1 (cells + mc) (slots + ms) Q (F0 m (pc + 3) ls (.long r :: rest))) : W p l e R s m args below meth c H locs cells slots Q (F0 m pc ls st0) := by
  intro T hT X
  rcases hr T hT X with ⟨v, st₀, t, T', L, h0, X', hL, e1, e2, ⟨⟨r, u, hv, hp, hb⟩, hF⟩, st⟩ | ⟨q, st₀, t, T', L, E, ce, h0, X', hL, e1, e2, ⟨u, hp, hb, hF⟩, hce, hcv, hcl, st⟩
  · cases hv
    obtain ⟨k1, k2, k3⟩ := vx_keep h0 e1 hS hA hf hL hF
    obtain ⟨t2, a1, b1⟩ := kk r u t T'.heap (locs ++ L) e1.symm (by rw [← e2]; exact X'.warmed.alike) hp hb k1 k2 k3 T' rfl X'
    exact ⟨t2, st t2 a1, b1⟩
  · obtain ⟨k1, k2, k3⟩ := vx_keep h0 e1 hS hAX hf hL hF
    obtain ⟨t2, a1, b1⟩ := kx E ce q u t T'.heap (locs ++ L) e1.symm (by rw [← e2]; exact X'.warmed.alike) hp hb k1 k2 k3 (by rw [e1]; exact hce) hcv hcl T' rfl X'
    exact ⟨t2, st.trans a1, b1⟩
theorem vx_callf {S SX : Type} {post : UInt32 → S → Prop} {px : SX → Prop} {B : S → State → Prop} {BX : String → SX → State → Prop} {AX : Nat → Prop} (hr : vx_Run p l e R s m args below meth c H locs cells slots mc ms (F0 m pc ls st0) rest (va_Qf post B A1 a) (vx_X px BX AX) free) (hS : va_S A0 H0 H locs) (hA : ∀ q, q < H.size → A1 q → A0 q) (hf : ∀ q, free q → A0 q) (hAX : ∀ q, q < H.size → AX q → A0 q)
    (kx : ∀ (E : String) (ce : Cell) (q9 : Addr) (u : SX) (t : State) (H1 : Heap) (locs1 : List Loc), t.heap = H1 → s.vm.Alike t.vm → px u → BX E u t → H.size ≤ H1.size → (∀ q : Nat, q < H.size → ¬ AX q → H1[q]? = H[q]?) → va_S A0 H0 H1 locs1 → H1[q9]? = some ce → ce.vm = .none → s.vm.findClass E = some ce.cls → vx_W p l e R s m args below meth c H1 locs1 (cells + mc) (slots + ms) Q (F0 m pc ls rest) q9)
    (kk : ∀ (r : UInt32) (u : S) (t : State) (H1 : Heap) (locs1 : List Loc), t.heap = H1 → s.vm.Alike t.vm → post r u → B u t → H.size ≤ H1.size → (∀ q : Nat, q < H.size → ¬ A1 q → H1[q]? = H[q]?) → va_S A0 H0 H1 locs1 → W p l e R s m args below meth c H1 locs1 (cells + mc) (slots + ms) Q (F0 m (pc + 3) ls (.float r :: rest))) : W p l e R s m args below meth c H locs cells slots Q (F0 m pc ls st0) := by
  intro T hT X
  rcases hr T hT X with ⟨v, st₀, t, T', L, h0, X', hL, e1, e2, ⟨⟨r, u, hv, hp, hb⟩, hF⟩, st⟩ | ⟨q, st₀, t, T', L, E, ce, h0, X', hL, e1, e2, ⟨u, hp, hb, hF⟩, hce, hcv, hcl, st⟩
  · cases hv
    obtain ⟨k1, k2, k3⟩ := vx_keep h0 e1 hS hA hf hL hF
    obtain ⟨t2, a1, b1⟩ := kk r u t T'.heap (locs ++ L) e1.symm (by rw [← e2]; exact X'.warmed.alike) hp hb k1 k2 k3 T' rfl X'
    exact ⟨t2, st t2 a1, b1⟩
  · obtain ⟨k1, k2, k3⟩ := vx_keep h0 e1 hS hAX hf hL hF
    obtain ⟨t2, a1, b1⟩ := kx E ce q u t T'.heap (locs ++ L) e1.symm (by rw [← e2]; exact X'.warmed.alike) hp hb k1 k2 k3 (by rw [e1]; exact hce) hcv hcl T' rfl X'
    exact ⟨t2, st.trans a1, b1⟩
theorem vx_calld {S SX : Type} {post : UInt64 → S → Prop} {px : SX → Prop} {B : S → State → Prop} {BX : String → SX → State → Prop} {AX : Nat → Prop} (hr : vx_Run p l e R s m args below meth c H locs cells slots mc ms (F0 m pc ls st0) rest (va_Qd post B A1 a) (vx_X px BX AX) free) (hS : va_S A0 H0 H locs) (hA : ∀ q, q < H.size → A1 q → A0 q) (hf : ∀ q, free q → A0 q) (hAX : ∀ q, q < H.size → AX q → A0 q)
    (kx : ∀ (E : String) (ce : Cell) (q9 : Addr) (u : SX) (t : State) (H1 : Heap) (locs1 : List Loc), t.heap = H1 → s.vm.Alike t.vm → px u → BX E u t → H.size ≤ H1.size → (∀ q : Nat, q < H.size → ¬ AX q → H1[q]? = H[q]?) → va_S A0 H0 H1 locs1 → H1[q9]? = some ce → ce.vm = .none → s.vm.findClass E = some ce.cls → vx_W p l e R s m args below meth c H1 locs1 (cells + mc) (slots + ms) Q (F0 m pc ls rest) q9)
    (kk : ∀ (r : UInt64) (u : S) (t : State) (H1 : Heap) (locs1 : List Loc), t.heap = H1 → s.vm.Alike t.vm → post r u → B u t → H.size ≤ H1.size → (∀ q : Nat, q < H.size → ¬ A1 q → H1[q]? = H[q]?) → va_S A0 H0 H1 locs1 → W p l e R s m args below meth c H1 locs1 (cells + mc) (slots + ms) Q (F0 m (pc + 3) ls (.double r :: rest))) : W p l e R s m args below meth c H locs cells slots Q (F0 m pc ls st0) := by
  intro T hT X
  rcases hr T hT X with ⟨v, st₀, t, T', L, h0, X', hL, e1, e2, ⟨⟨r, u, hv, hp, hb⟩, hF⟩, st⟩ | ⟨q, st₀, t, T', L, E, ce, h0, X', hL, e1, e2, ⟨u, hp, hb, hF⟩, hce, hcv, hcl, st⟩
  · cases hv
    obtain ⟨k1, k2, k3⟩ := vx_keep h0 e1 hS hA hf hL hF
    obtain ⟨t2, a1, b1⟩ := kk r u t T'.heap (locs ++ L) e1.symm (by rw [← e2]; exact X'.warmed.alike) hp hb k1 k2 k3 T' rfl X'
    exact ⟨t2, st t2 a1, b1⟩
  · obtain ⟨k1, k2, k3⟩ := vx_keep h0 e1 hS hAX hf hL hF
    obtain ⟨t2, a1, b1⟩ := kx E ce q u t T'.heap (locs ++ L) e1.symm (by rw [← e2]; exact X'.warmed.alike) hp hb k1 k2 k3 (by rw [e1]; exact hce) hcv hcl T' rfl X'
    exact ⟨t2, st.trans a1, b1⟩
theorem vx_callv {S SX : Type} {post : S → Prop} {px : SX → Prop} {B : S → State → Prop} {BX : String → SX → State → Prop} {AX : Nat → Prop} (hr : vx_Run p l e R s m args below meth c H locs cells slots mc ms (F0 m pc ls st0) rest (va_Qv post B A1 a) (vx_X px BX AX) free) (hS : va_S A0 H0 H locs) (hA : ∀ q, q < H.size → A1 q → A0 q) (hf : ∀ q, free q → A0 q) (hAX : ∀ q, q < H.size → AX q → A0 q)
    (kx : ∀ (E : String) (ce : Cell) (q9 : Addr) (u : SX) (t : State) (H1 : Heap) (locs1 : List Loc), t.heap = H1 → s.vm.Alike t.vm → px u → BX E u t → H.size ≤ H1.size → (∀ q : Nat, q < H.size → ¬ AX q → H1[q]? = H[q]?) → va_S A0 H0 H1 locs1 → H1[q9]? = some ce → ce.vm = .none → s.vm.findClass E = some ce.cls → vx_W p l e R s m args below meth c H1 locs1 (cells + mc) (slots + ms) Q (F0 m pc ls rest) q9)
    (kk : ∀ (u : S) (t : State) (H1 : Heap) (locs1 : List Loc), t.heap = H1 → s.vm.Alike t.vm → post u → B u t → H.size ≤ H1.size → (∀ q : Nat, q < H.size → ¬ A1 q → H1[q]? = H[q]?) → va_S A0 H0 H1 locs1 → W p l e R s m args below meth c H1 locs1 (cells + mc) (slots + ms) Q (F0 m (pc + 3) ls (rest))) : W p l e R s m args below meth c H locs cells slots Q (F0 m pc ls st0) := by
  intro T hT X
  rcases hr T hT X with ⟨v, st₀, t, T', L, h0, X', hL, e1, e2, ⟨⟨u, hv, hp, hb⟩, hF⟩, st⟩ | ⟨q, st₀, t, T', L, E, ce, h0, X', hL, e1, e2, ⟨u, hp, hb, hF⟩, hce, hcv, hcl, st⟩
  · cases hv
    obtain ⟨k1, k2, k3⟩ := vx_keep h0 e1 hS hA hf hL hF
    obtain ⟨t2, a1, b1⟩ := kk u t T'.heap (locs ++ L) e1.symm (by rw [← e2]; exact X'.warmed.alike) hp hb k1 k2 k3 T' rfl X'
    exact ⟨t2, st t2 a1, b1⟩
  · obtain ⟨k1, k2, k3⟩ := vx_keep h0 e1 hS hAX hf hL hF
    obtain ⟨t2, a1, b1⟩ := kx E ce q u t T'.heap (locs ++ L) e1.symm (by rw [← e2]; exact X'.warmed.alike) hp hb k1 k2 k3 (by rw [e1]; exact hce) hcv hcl T' rfl X'
    exact ⟨t2, st.trans a1, b1⟩
/-- caught by the row x of this method's table; the rows ahead don't take it -/
theorem vx_catch {own name : String} {E : String} {ce : Cell} {q : Addr} (hown : s.vm.findClass own = some m.cls) (pre : List ExceptionTableEntry) (x : ExceptionTableEntry) (suf : List ExceptionTableEntry) (hsplit : c.exceptionTable.toList = pre ++ x :: suf)
    (hpass : ∀ z ∈ pre, covers z pc = false ∨ (z.catchType ≠ 0 ∧ ∃ nm : String, (Cond.classLink own z.catchType nm).before args s = true ∧ va_Nc E nm s)) (hx : covers x pc = true) (h0 : x.catchType ≠ 0)
    (hlink : (Cond.classLink own x.catchType name).before args s = true) (hcast : (Cond.castable E name).before args s = true) (hcell : H[q]? = some ce) (hv : ce.vm = .none) (hcl : s.vm.findClass E = some ce.cls)
    (kk : W p l e R s m args below meth c H locs cells slots Q (F0 m x.handlerPc ls [.ref q])) : vx_W p l e R s m args below meth c H locs cells slots Q (F0 m pc ls rest) q := by
  intro T hT X
  have hpl : e.platform.magicAccessors = ({} : Platform).magicAccessors := by rw [X.admits.platform]
  obtain ⟨c3, c4, hc3, hc4, hasg⟩ := Cond.castable_spec hcast
  cases Option.some.inj (hc3.symm.trans hcl)
  obtain ⟨c5, hc5, hcl5⟩ := Cond.classLink_spec hown hlink e.platform hpl
  cases Option.some.inj (hc4.symm.trans hc5)
  obtain ⟨vm', X', st⟩ := X.thenCaughtThrough q (g := F0 m pc ls rest) rfl (Steps.refl _) (by rw [hT]; exact hcell) (by rw [hv]; rfl) (by obtain ⟨k9, h9, -⟩ := Vm.findClass_spec hcl; exact ⟨k9, h9⟩) pre x suf hsplit
    (fun z hz => by
      rcases hpass z hz with h | ⟨hz0, nm, hl1, hn1⟩
      · exact Or.inl h
      · obtain ⟨c6, hc6, hcl6⟩ := Cond.classLink_spec hown hl1 e.platform hpl
        obtain ⟨a8, b8, h1, h2, h3⟩ := hn1
        cases Option.some.inj (h1.symm.trans hcl)
        cases Option.some.inj (h2.symm.trans hc6)
        exact Or.inr ⟨hz0, _, hcl6, h3⟩) hx (Or.inr ⟨h0, c4, hcl5, hasg⟩)
  obtain ⟨t, a1, b1⟩ := kk (T.setVm vm') hT X'
  exact ⟨t, st.trans a1, b1⟩
end Rows
section Ends
variable {p : Program} {l : Launch} {e : Env} {R : Room} {s : State} {m : MethodId} {args : Array Value} {below : List Frame} {meth : Method} {c : Code} {H : Heap} {locs : List Loc} {cells slots : Nat} {Q : State → Prop}
variable {mc ms : Nat} {free : Addr → Prop} {A0 A1 : Nat → Prop} {H0 : Heap} {a : Array Value} {ls : Array Slot} {st0 rest : List Value}
variable {Qc : Array Value → State → Outcome → State → Prop} {XC : String → State → State → Prop}
/-- what a body that may throw owes at its end -/
def vx_MQ (below : List Frame) (Qc : Array Value → State → Outcome → State → Prop) (XC : String → State → State → Prop) (a : Array Value) (s : State) (mc ms : Nat) (free : Addr → Prop) : State → Prop := fun t =>
  ∃ o, t.status = .running ∧ Ended t below o ∧ vx_Q Qc XC mc ms free a s o t
theorem vx_ret {g : JFrame} {mc ms : Nat} (k : W p l e R s m args below meth c H locs cells slots (MQ below Qc args s mc ms free) g) : W p l e R s m args below meth c H locs cells slots (vx_MQ below Qc XC args s mc ms free) g := by
  intro T hT X
  obtain ⟨t, a1, o, b1, b2, b3, b4⟩ := k T hT X
  exact ⟨t, a1, o, b1, b2, Or.inl ⟨b3, b4⟩⟩
/-- not caught here: it goes on to the caller -/
theorem vx_widen {g : JFrame} {q : Addr} {k n : Nat} (h1 : cells ≤ k) (h2 : slots ≤ n) (kk : vx_W p l e R s m args below meth c H locs k n Q g q) : vx_W p l e R s m args below meth c H locs cells slots Q g q := fun T hT X => kk T hT (stand_widen X h1 h2)
theorem vx_out {pc : Nat} {E : String} {ce : Cell} {q : Addr} {mc ms : Nat} (hout : ∀ x ∈ c.exceptionTable.toList, covers x pc = false) (hlocks : meth.locks = false) (hcell : H[q]? = some ce) (hv : ce.vm = .none) (hcl : s.vm.findClass E = some ce.cls)
    (hx : ∀ t : State, t.heap = H → s.vm.Alike t.vm → XC E s t) (hf : ∀ z ∈ locs, free z.base) (hc : cells ≤ mc) (hs : slots ≤ ms) :
    vx_W p l e R s m args below meth c H locs cells slots (vx_MQ below Qc XC args s mc ms free) (F0 m pc ls rest) q := by
  intro T hT X
  obtain ⟨st1, hrun, hend, hW, hsm⟩ := X.leaveThrown q (g := F0 m pc ls rest) rfl rfl rfl hout hlocks
  have hcell9 : (T.setFrames (.throwing q :: below)).heap[q]? = some ce := by
    show T.heap[q]? = some ce
    rw [hT]; exact hcell
  exact ⟨_, st1, .threw q, hrun, hend, Or.inr ⟨q, rfl, E, ce, locs, hx _ hT hW.alike, hcell9, hv, hcl, hW, hsm.mono hc hs, hf⟩⟩
theorem vx_frame {U : State} {k n : Nat} (h : s.sameButNew ({ U with vm := s.vm } : State) locs k n) : s.heap.size ≤ U.heap.size ∧ ∀ q : Nat, q < s.heap.size → (∀ z ∈ locs, z.base ≠ q) → U.heap[q]? = s.heap[q]? := by
  obtain ⟨-, h2, -, -, -, h6⟩ := h
  refine ⟨h2, fun q hq hz => ?_⟩
  obtain ⟨c9, e1, e2, e3, e4⟩ := h6 q _ (Array.getElem?_eq_getElem hq)
  have hs : c9.slots = (s.heap[q]).slots := Array.ext_getElem? fun i => e4 i fun hm => hz _ hm rfl
  have h9 : c9 = s.heap[q] := by
    rw [hs] at e2
    exact e2
  have e5 : U.heap[q]? = some c9 := e1
  rw [e5, h9, Array.getElem?_eq_getElem hq]
/-- the words of a throw but the four that speak of the heap -/
def vx_no (w : Cond) : Bool := decide (w ≠ .isRef (.static Bundle.tN "UNASSIGNED_STACK" Bundle.steD)) && decide (w ≠ .isRef (.static Bundle.tN "SUPPRESSED_SENTINEL" Bundle.listD)) && decide (w ≠ .laysStatic Bundle.tN "UNASSIGNED_STACK" Bundle.steD) && decide (w ≠ .laysStatic Bundle.tN "SUPPRESSED_SENTINEL" Bundle.listD)
def vx_at0 (own : String) (ic : Nat) (X : String) (names : List String) : List Cond := (Bundle.ownAtoms0 own ic X names).filter vx_no
def vx_atS (own : String) (ic : Nat) (X : String) (names : List String) : List Cond := (Bundle.ownAtoms own ic X names).filter vx_no
/-- a word that the tables alone decide, or a good one -/
def vx_ot (w : Cond) : Bool := w.onTables || goodWord w
theorem vx_ot_at {args a' : Array Value} {s U : State} {w : Cond} (hW : s.WarmedH U.vm) (hvm : s.vm = U.vm) (hg : vx_ot w = true) (h : w.before args s = true) : w.before a' U = true := by
  simp only [vx_ot, Bool.or_eq_true] at hg
  rcases hg with hg | hg
  · exact va_tabs hg hvm h
  · exact word_at hW (good_of_word hg) h
/-- a list's words: the good ones out of the method's own list, the others by premises of their own -/
theorem vx_hat {args : Array Value} {s : State} {L B : List Cond} (h1 : ∀ w ∈ L.filter goodWord, w.before args s = true) (h2 : ∀ w ∈ L.filter (fun w => !goodWord w), w ∈ B) (h3 : ∀ w ∈ B, w.before args s = true) : ∀ w ∈ L, w.before args s = true := by
  intro w hw
  by_cases g : goodWord w = true
  · exact h1 w (List.mem_filter.mpr ⟨hw, g⟩)
  · refine h3 w (h2 w (List.mem_filter.mpr ⟨hw, ?_⟩))
    show (!goodWord w) = true
    cases hgw : goodWord w
    · rfl
    · exact absurd hgw g
theorem vx_c {args : Array Value} {s : State} {w : Cond} {B : List Cond} (h : w.before args s = true) (t : ∀ w ∈ B, w.before args s = true) : ∀ w' ∈ w :: B, w'.before args s = true := fun w' h' => (List.mem_cons.mp h').elim (fun e => by rw [e]; exact h) (t w')
theorem vx_n {args : Array Value} {s : State} : ∀ w ∈ ([] : List Cond), w.before args s = true := fun _ h => nomatch h
theorem vx_own {args : Array Value} {s : State} {L : List Cond} (h1 : ∀ w ∈ L.filter vx_no, w.before args s = true)
    (hU : (Cond.isRef (.static Bundle.tN "UNASSIGNED_STACK" Bundle.steD)).before args s = true) (hN : (Cond.isRef (.static Bundle.tN "SUPPRESSED_SENTINEL" Bundle.listD)).before args s = true)
    (lU : (Cond.laysStatic Bundle.tN "UNASSIGNED_STACK" Bundle.steD).before args s = true) (lN : (Cond.laysStatic Bundle.tN "SUPPRESSED_SENTINEL" Bundle.listD).before args s = true) : ∀ w ∈ L, w.before args s = true := by
  intro w hw
  by_cases e1 : w = .isRef (.static Bundle.tN "UNASSIGNED_STACK" Bundle.steD)
  · rw [e1]; exact hU
  · by_cases e2 : w = .isRef (.static Bundle.tN "SUPPRESSED_SENTINEL" Bundle.listD)
    · rw [e2]; exact hN
    · by_cases e3 : w = .laysStatic Bundle.tN "UNASSIGNED_STACK" Bundle.steD
      · rw [e3]; exact lU
      · by_cases e4 : w = .laysStatic Bundle.tN "SUPPRESSED_SENTINEL" Bundle.listD
        · rw [e4]; exact lN
        · exact h1 w (List.mem_filter.mpr ⟨hw, by unfold vx_no; rw [decide_eq_true e1, decide_eq_true e2, decide_eq_true e3, decide_eq_true e4]; rfl⟩)
/-- where a static field lies, its class's statics cell in H -/
def vx_L (C n d : String) (A : Nat → Prop) (U : State) (H : Heap) : Prop := ∃ (c : ClassId) (k : Class) (i : Nat) (f : Field) (a : Nat) (cell : Cell), U.vm.findClass C = some c ∧ U.fieldFound? C n d = some (c, k, i, f) ∧ f.isStatic = true ∧ k.statics = some a ∧ H[a]? = some cell ∧ cell.vm.isStatics = true ∧ cell.cls = c ∧ f.slot < cell.slots.size ∧ k.staticTypes[f.slot]? = some f.type ∧ ¬ A a
theorem vx_L.moved {C n d : String} {A : Nat → Prop} {u U : State} {H : Heap} (hvm : u.vm.Alike U.vm) (h : vx_L C n d A u H) : vx_L C n d A U H := by
  obtain ⟨c, k, i, f, a, cell, h1, h2, h3, h4, h5, h6, h7, h8, h9, h10⟩ := h
  obtain ⟨k', hi', he⟩ := State.fieldFound?_setVm hvm h2
  exact ⟨c, k', i, f, a, cell, by rw [hvm.findClass]; exact h1, hi', h3, by rw [he]; exact h4, h5, h6, h7, h8, by rw [he]; exact h9, h10⟩
theorem vx_L.kept {C n d : String} {A : Nat → Prop} {U : State} {H H1 : Heap} (h : vx_L C n d A U H) (hq : ∀ a : Nat, a < H.size → ¬ A a → H1[a]? = H[a]?) : vx_L C n d A U H1 := by
  obtain ⟨c, k, i, f, a, cell, h1, h2, h3, h4, h5, h6, h7, h8, h9, h10⟩ := h
  exact ⟨c, k, i, f, a, cell, h1, h2, h3, h4, by rw [hq a (Array.getElem?_eq_some_iff.mp h5).1 h10]; exact h5, h6, h7, h8, h9, h10⟩
theorem vx_L.narrow {C n d : String} {A B : Nat → Prop} {U : State} {H : Heap} (h : vx_L C n d A U H) (hAB : ∀ q, B q → A q) : vx_L C n d B U H := by
  obtain ⟨c, k, i, f, a, cell, h1, h2, h3, h4, h5, h6, h7, h8, h9, h10⟩ := h
  exact ⟨c, k, i, f, a, cell, h1, h2, h3, h4, h5, h6, h7, h8, h9, fun z => h10 (hAB _ z)⟩
theorem vx_L.word {C n d : String} {A : Nat → Prop} {s : State} {args : Array Value} (h : vx_L C n d A s s.heap) : (Cond.laysStatic C n d).before args s = true := by
  obtain ⟨c, k, i, f, a, cell, h1, h2, h3, h4, h5, h6, h7, h8, h9, -⟩ := h
  show (Cond.laysStatic C n d).holds args s none s [] = true
  exact Cond.laysStatic_of h1 h2 h3 h4 h5 h6 h7 h8 h9
/-- .. and what it holds: null or some reference -/
def vx_Zq (C n d : String) (A : Nat → Prop) (U : State) (H : Heap) : Prop := va_Zq C n d A U H ∧ vx_L C n d A U H
theorem vx_Zq.moved {C n d : String} {A : Nat → Prop} {u U : State} {H : Heap} (hvm : u.vm.Alike U.vm) (h : vx_Zq C n d A u H) : vx_Zq C n d A U H := ⟨va_Zq.moved hvm h.1, vx_L.moved hvm h.2⟩
theorem vx_Zq.kept {C n d : String} {A : Nat → Prop} {U : State} {H H1 : Heap} (h : vx_Zq C n d A U H) (hq : ∀ a : Nat, a < H.size → ¬ A a → H1[a]? = H[a]?) : vx_Zq C n d A U H1 := ⟨va_Zq.kept h.1 hq, vx_L.kept h.2 hq⟩
theorem vx_Zq.narrow {C n d : String} {A B : Nat → Prop} {U : State} {H : Heap} (h : vx_Zq C n d A U H) (hAB : ∀ q, B q → A q) : vx_Zq C n d B U H := ⟨va_Zq.narrow h.1 hAB, vx_L.narrow h.2 hAB⟩
theorem vx_Zqof {args : Array Value} {s : State} {C n d : String} {A : Nat → Prop} (hl : (Cond.laysStatic C n d).before args s = true) (hini : (Cond.initialized C).before args s = true) (h : (Cond.isRef (.static C n d)).before args s = true) (hA : ∀ a : Nat, a < s.heap.size → ¬ A a) : vx_Zq C n d A s s.heap := by
  refine ⟨va_Zqof hl hini h hA, ?_⟩
  obtain ⟨c, k, i, f, a, cell, h1, h2, h3, h4, h5, h6, h7, h8, h9⟩ := Cond.laysStatic_spec hl
  exact ⟨c, k, i, f, a, cell, h1, h2, h3, h4, h5, h6, h7, h8, h9, hA a (Array.getElem?_eq_some_iff.mp h5).1⟩
theorem vx_isRef {C n d : String} {v : Value} {A : Nat → Prop} {s : State} {args : Array Value} (h : va_Z C n d v A s s.heap) (hv : v.isRef = true) : (Cond.isRef (.static C n d)).before args s = true := by
  obtain ⟨cf, kf, fi, f, a, cell, h1, h2, h3, h4, h5, h6, h7, -⟩ := h
  have he : (Term.static C n d).eval args s none [] s = some v := by
    simp [Term.eval, State.fieldNamed?, h1, h2, h4, h5, h6, h7]
  simp only [Cond.before, Cond.holds, Cond.value, he]
  cases v <;> simp_all [Value.isRef]
theorem vx_isRefq {C n d : String} {A : Nat → Prop} {s : State} {args : Array Value} (h : va_Zq C n d A s s.heap) : (Cond.isRef (.static C n d)).before args s = true := by
  rcases h with h | ⟨t, h⟩
  · exact vx_isRef h rfl
  · exact vx_isRef h rfl
/-- the same frame, seen from here: as if the method were called anew in this heap -/
theorem vx_rebase {T : State} (X : Stand p l e R s m args below meth c T locs cells slots) {R' : Room} (hf : R'.frames ≤ R.frames) (hl : R'.locals ≤ R.locals) (hc : cells + R'.cells ≤ R.cells) (hs : slots + R'.slots ≤ R.slots) :
    Stand p l e R' ((T.setVm s.vm).setFrames (.invoking m args :: below)) m args below meth c T [] 0 0 := by
  have htop : (T.setVm s.vm).topJava?.isSome := X.here.top
  have hF : ((T.setVm s.vm).setFrames (.invoking m args :: below)).frames = .invoking m args :: below := State.frames_setFrames _ (State.cur_lt_of_top htop)
  obtain ⟨g₀, hg0⟩ := Option.isSome_iff_exists.mp htop
  obtain ⟨r, hr⟩ := State.topJava?_eq_some.mp hg0
  have hl9 : e.platform.stackLimits (T.setVm s.vm).me = e.platform.stackLimits s.me := X.limits
  have hb9 : (T.setVm s.vm).me.stackBytes = s.me.stackBytes := X.bytes
  refine ⟨X.admits, X.cas, X.clock, hF, ?_, X.hears, X.method, X.code, X.here, X.tail, X.warmed, ?_, ?_, ?_⟩
  · have h := X.room
    have hU : ((T.setVm s.vm).setFrames (.invoking m args :: below)).localsInUse = s.localsInUse := by
      rw [State.localsInUse_invoking hF (meth := meth) (c := c) X.method X.code, State.localsInUse_invoking X.frames X.method X.code]
    simp only [State.hasRoom, Bool.and_eq_true, decide_eq_true_eq] at h ⊢
    obtain ⟨⟨⟨⟨h1, h2, h3, h4, h5, h6⟩, h7⟩, h8⟩, h9⟩ := h
    rw [X.frames, List.length_cons] at h2 h3
    have q1 := X.heapSize
    have q2 := X.used
    simp only [hF, hU, List.length_cons, State.stackLimits_setFrames, State.stackBytes_setFrames, hl9, hb9]
    refine ⟨⟨⟨⟨by omega, by omega, by omega, by omega, by omega, h6⟩, ?_⟩, ?_⟩, X.book⟩
    · show T.heap.size + R'.cells ≤ e.platform.maxCells
      omega
    · show T.slotsUsed + R'.slots ≤ e.platform.maxSlots
      omega
  · rw [State.stackLimits_setFrames]; rfl
  · rw [State.stackBytes_setFrames]; rfl
  · refine ⟨?_, Nat.le_refl _, Nat.le_refl _, ?_, ?_, fun a c9 h9 => ⟨c9, h9, rfl, rfl, fun _ _ => rfl⟩⟩
    · obtain ⟨t, ht, -⟩ := State.frames_cons hr
      show T.setVm s.vm = { ((T.setVm s.vm).setFrames (.invoking m args :: below)).setFrames (T.setVm s.vm).frames with heap := T.heap, slotsUsed := T.slotsUsed }
      rw [State.setFrames_setFrames, State.setFrames_self ht]
      rfl
    · show T.slotsUsed = T.slotsUsed + ((T.heap.toList.drop T.heap.size).map (·.slots.size)).sum
      rw [List.drop_eq_nil_of_le (Nat.le_of_eq Array.length_toList)]
      rfl
    · show ((T.heap.toList.drop T.heap.size).map (·.slots.size)).sum ≤ 0
      rw [List.drop_eq_nil_of_le (Nat.le_of_eq Array.length_toList)]
      exact Nat.le_refl _
/-- 'throw new E()': new; dup; invokespecial; athrow -/
theorem vx_throw0 {cc : ByteArray} {pc : Nat} (hexec : p.tables.exec = Jvm.exec) (hb : c.code = cc) (hl : l.stackTraces = false) {own cls : String} {names : List String} {ik ic mc ms : Nat} {A : Nat → Prop}
    (hown : s.vm.findClass own = some m.cls) (hcls : Bundle.fit cls = true) (hnames : ∀ n ∈ names, Bundle.fit n = true)
    (hk : (Cond.classLink own ik cls).before args s = true) (hini : (Cond.initialized cls).before args s = true) (hat : ∀ w ∈ vx_at0 own ic cls names, w.before args s = true)
    (hgood : ∀ w ∈ Cond.classLink own ik cls :: Cond.initialized cls :: vx_at0 own ic cls names, vx_ot w = true)
    (hU : vx_Zq Bundle.tN "UNASSIGNED_STACK" Bundle.steD A s s.heap) (hN : vx_Zq Bundle.tN "SUPPRESSED_SENTINEL" Bundle.listD A s s.heap) (hS : va_S A s.heap H locs) (hsize : ls.size = c.maxLocals)
    (d0 : decode cc pc = .ok (.new ik, 3)) (d3 : decode cc (pc + 3) = .ok (.dup, 1)) (d4 : decode cc (pc + 4) = .ok (.invokespecial ic, 3)) (d7 : decode cc (pc + 7) = .ok (.athrow, 1))
    (hout : ∀ x ∈ c.exceptionTable.toList, covers x (pc + 7) = false)
    (hRframes : names.length + 3 < R.frames) (hRlocals : (rest.map fun v => v.category).sum + (13 * (names.length + 1) + 42) ≤ R.locals) (hRcells : cells + 1 ≤ R.cells) (hRslots : slots + 6 ≤ R.slots) (hlocks : meth.locks = false)
    (hx : ∀ t : State, s.vm.Alike t.vm → H.size ≤ t.heap.size → (∀ q : Nat, q < H.size → t.heap[q]? = H[q]?) → XC cls s t)
    (hf : ∀ z ∈ locs, free z.base) (hc : cells + 1 ≤ mc) (hs : slots + 6 ≤ ms) :
    W p l e R s m args below meth c H locs cells slots (vx_MQ below Qc XC args s mc ms free) (F0 m pc ls rest) := by
  intro T hT X
  have htr : e.platform.stackTraces = false := (show e.platform.stackTraces = l.stackTraces by rw [X.admits.platform]).trans hl
  have Y := vx_rebase X (R' := { frames := R.frames, locals := R.locals, cells := 1, slots := 6 }) (Nat.le_refl _) (Nat.le_refl _) hRcells hRslots
  obtain ⟨s', hA⟩ : ∃ z, z = (T.setVm s.vm).setFrames (.invoking m args :: below) := ⟨_, rfl⟩
  rw [← hA] at Y
  have hvm : s'.vm = s.vm := by rw [hA]; rfl
  have hhp : s'.heap = H := by rw [hA]; exact hT
  have hW0 : s.WarmedH s'.vm := by rw [hvm]; exact State.WarmedH.refl s
  have hat' : ∀ w ∈ vx_at0 own ic cls names, w.before args s' = true := fun w hw => vx_ot_at hW0 hvm.symm (hgood w (List.mem_cons_of_mem _ (List.mem_cons_of_mem _ hw))) (hat w hw)
  have hk' : (Cond.classLink own ik cls).before args s' = true := vx_ot_at hW0 hvm.symm (hgood _ List.mem_cons_self) hk
  have hini' : (Cond.initialized cls).before args s' = true := vx_ot_at hW0 hvm.symm (hgood _ (List.mem_cons_of_mem _ List.mem_cons_self)) hini
  have hU' : vx_Zq Bundle.tN "UNASSIGNED_STACK" Bundle.steD A s' s'.heap := by rw [hhp]; exact vx_Zq.moved hW0.alike (hU.kept hS.2.1)
  have hN' : vx_Zq Bundle.tN "SUPPRESSED_SENTINEL" Bundle.listD A s' s'.heap := by rw [hhp]; exact vx_Zq.moved hW0.alike (hN.kept hS.2.1)
  have h : ∀ w ∈ Bundle.ownAtoms0 own ic cls names, w.before args s' = true := vx_own hat' (vx_isRefq hU'.1) (vx_isRefq hN'.1) hU'.2.word hN'.2.word
  have hown' : s'.vm.findClass own = some m.cls := by rw [hvm]; exact hown
  have hins : (Cond.instantiable cls 6).before args s' = true := h _ (by simp [Bundle.ownAtoms0])
  obtain ⟨vm₁, cX, kX, hfX, hkX, -, -, X₁, st1⟩ := Y.newCold hexec (own := own) (C := cls) (index := ik) (n := 6) hown' hk' hins hini'
    (g := F0 m pc ls rest) rfl (by rw [hb]; exact d0) (Nat.le_refl _) (Nat.le_refl _)
  generalize hT1 : (T.setVm vm₁).pushCell { cls := cX, slots := kX.instanceTypes.map defaultValue, vm := .none } = T1 at X₁ st1
  have hcat : (Value.ref T.heap.size).category = 1 := rfl
  have hcellA : T1.heap[T.heap.size]? = some (freshCell cX kX) := by rw [← hT1]; exact State.heap_pushCell_size _ _
  have d3' : decode c.code (pc + 3) = .ok (.dup, 1) := by rw [hb]; exact d3
  obtain ⟨U, hsteps, hrun, hend, hW, hsame, ce, hce, hO⟩ := X₁.ctorThrow0 hexec htr (own := own) (cls := cls) (names := names) (ic := ic) hown' hcls hnames h (fun x hx => nomatch hx) hfX hkX hcellA (by rw [hhp, hT]; exact Nat.le_refl _)
    (g := { method := m, pc := pc + 4, locals := ls, stack := .ref T.heap.size :: .ref T.heap.size :: rest, locked := none }) rfl hsize rfl rfl (rest := rest) rfl
    (by rw [hb]; exact d4) (by rw [hb]; exact d7) hout hRframes (by simp only [List.map_cons, List.sum_cons, hcat]; omega) hlocks
  obtain ⟨f1, f2⟩ := vx_frame hsame
  rw [hhp] at f1 f2
  have hWs : s.WarmedH U.vm := State.WarmedH.trans hW0 hW
  have hcl : s.vm.findClass cls = some ce.cls := by
    have h9 := hO.cls
    rw [hvm] at h9
    exact h9
  have hall : s.sameButNew ({ U with vm := s.vm } : State) locs mc ms := by
    subst hA
    obtain ⟨e1, e2⟩ := hsame
    rw [State.setFrames_setFrames] at e1
    have h2 : (T.setVm s.vm).sameButNew ({ U with vm := s.vm } : State) [] (0 + 1) (0 + 6) := ⟨e1, e2⟩
    have h3 := X.same.trans h2
    rw [List.append_nil] at h3
    exact h3.mono hc hs
  refine ⟨U, ?_, .threw T.heap.size, hrun, hend, Or.inr ⟨T.heap.size, rfl, cls, ce, locs, hx U hWs.alike f1 (fun q hq => f2 q hq (fun z hz => nomatch hz)), hce, hO.vm, hcl, hWs, hall, hf⟩⟩
  refine st1 _ ?_
  show Steps p.tables e below (T1.setTop { method := m, pc := pc + 3, locals := ls, stack := .ref T.heap.size :: rest, locked := none }) _
  jvm_step X₁.here [X₁.here.top, hexec, d3', Value.category]
  exact hsteps
/-- 'throw new E("text")': new; dup; ldc; invokespecial; athrow -/
theorem vx_throwS {cc : ByteArray} {pc : Nat} (hexec : p.tables.exec = Jvm.exec) (hb : c.code = cc) (hl : l.stackTraces = false) {own cls text : String} {names : List String} {ik is ic mc ms sa : Nat} {A : Nat → Prop}
    (hown : s.vm.findClass own = some m.cls) (hcls : Bundle.fit cls = true) (hnames : ∀ n ∈ names, Bundle.fit n = true)
    (hk : (Cond.classLink own ik cls).before args s = true) (hini : (Cond.initialized cls).before args s = true) (hstr : vk_R own is text sa s) (hat : ∀ w ∈ vx_atS own ic cls names, w.before args s = true)
    (hgood : ∀ w ∈ Cond.classLink own ik cls :: Cond.initialized cls :: vx_atS own ic cls names, vx_ot w = true)
    (hU : vx_Zq Bundle.tN "UNASSIGNED_STACK" Bundle.steD A s s.heap) (hN : vx_Zq Bundle.tN "SUPPRESSED_SENTINEL" Bundle.listD A s s.heap) (hS : va_S A s.heap H locs) (hsize : ls.size = c.maxLocals)
    (d0 : decode cc pc = .ok (.new ik, 3)) (d3 : decode cc (pc + 3) = .ok (.dup, 1)) (d4 : decode cc (pc + 4) = .ok (.ldc is, 2)) (d6 : decode cc (pc + 6) = .ok (.invokespecial ic, 3)) (d9 : decode cc (pc + 9) = .ok (.athrow, 1))
    (hout : ∀ x ∈ c.exceptionTable.toList, covers x (pc + 9) = false)
    (hRframes : names.length + 3 < R.frames) (hRlocals : (rest.map fun v => v.category).sum + (13 * (names.length + 1) + 43) ≤ R.locals) (hRcells : cells + 1 ≤ R.cells) (hRslots : slots + 6 ≤ R.slots) (hlocks : meth.locks = false)
    (hx : ∀ t : State, s.vm.Alike t.vm → H.size ≤ t.heap.size → (∀ q : Nat, q < H.size → t.heap[q]? = H[q]?) → XC cls s t)
    (hf : ∀ z ∈ locs, free z.base) (hc : cells + 1 ≤ mc) (hs : slots + 6 ≤ ms) :
    W p l e R s m args below meth c H locs cells slots (vx_MQ below Qc XC args s mc ms free) (F0 m pc ls rest) := by
  intro T hT X
  have htr : e.platform.stackTraces = false := (show e.platform.stackTraces = l.stackTraces by rw [X.admits.platform]).trans hl
  have Y := vx_rebase X (R' := { frames := R.frames, locals := R.locals, cells := 1, slots := 6 }) (Nat.le_refl _) (Nat.le_refl _) hRcells hRslots
  obtain ⟨s', hA⟩ : ∃ z, z = (T.setVm s.vm).setFrames (.invoking m args :: below) := ⟨_, rfl⟩
  rw [← hA] at Y
  have hvm : s'.vm = s.vm := by rw [hA]; rfl
  have hhp : s'.heap = H := by rw [hA]; exact hT
  have hW0 : s.WarmedH s'.vm := by rw [hvm]; exact State.WarmedH.refl s
  have hat' : ∀ w ∈ vx_atS own ic cls names, w.before args s' = true := fun w hw => vx_ot_at hW0 hvm.symm (hgood w (List.mem_cons_of_mem _ (List.mem_cons_of_mem _ hw))) (hat w hw)
  have hk' : (Cond.classLink own ik cls).before args s' = true := vx_ot_at hW0 hvm.symm (hgood _ List.mem_cons_self) hk
  have hini' : (Cond.initialized cls).before args s' = true := vx_ot_at hW0 hvm.symm (hgood _ (List.mem_cons_of_mem _ List.mem_cons_self)) hini
  have hU' : vx_Zq Bundle.tN "UNASSIGNED_STACK" Bundle.steD A s' s'.heap := by rw [hhp]; exact vx_Zq.moved hW0.alike (hU.kept hS.2.1)
  have hN' : vx_Zq Bundle.tN "SUPPRESSED_SENTINEL" Bundle.listD A s' s'.heap := by rw [hhp]; exact vx_Zq.moved hW0.alike (hN.kept hS.2.1)
  have h : ∀ w ∈ Bundle.ownAtoms own ic cls names, w.before args s' = true := vx_own hat' (vx_isRefq hU'.1) (vx_isRefq hN'.1) hU'.2.word hN'.2.word
  have hown' : s'.vm.findClass own = some m.cls := by rw [hvm]; exact hown
  have hins : (Cond.instantiable cls 6).before args s' = true := h _ (by simp [Bundle.ownAtoms])
  obtain ⟨vm₁, cX, kX, hfX, hkX, -, -, X₁, st1⟩ := Y.newCold hexec (own := own) (C := cls) (index := ik) (n := 6) hown' hk' hins hini'
    (g := F0 m pc ls rest) rfl (by rw [hb]; exact d0) (Nat.le_refl _) (Nat.le_refl _)
  generalize hT1 : (T.setVm vm₁).pushCell { cls := cX, slots := kX.instanceTypes.map defaultValue, vm := .none } = T1 at X₁ st1
  have hcat : (Value.ref T.heap.size).category = 1 := rfl
  have hcellA : T1.heap[T.heap.size]? = some (freshCell cX kX) := by rw [← hT1]; exact State.heap_pushCell_size _ _
  have d3' : decode c.code (pc + 3) = .ok (.dup, 1) := by rw [hb]; exact d3
  have d4' : decode c.code (pc + 4) = .ok (.ldc is, 2) := by rw [hb]; exact d4
  have hstr' : vk_R own is text sa s' := vk_R.warm hW0 hstr
  obtain ⟨U, hsteps, hrun, hend, hW, hsame, ce, hce, hO⟩ := X₁.ctorThrowS hexec htr (own := own) (cls := cls) (names := names) (ic := ic) hown' hcls hnames h (fun x hx => nomatch hx) hfX hkX hcellA (by rw [hhp, hT]; exact Nat.le_refl _) (msg := .ref sa) rfl
    (g := { method := m, pc := pc + 6, locals := ls, stack := .ref sa :: .ref T.heap.size :: .ref T.heap.size :: rest, locked := none }) rfl hsize rfl rfl (rest := rest) rfl
    (by rw [hb]; exact d6) (by rw [hb]; exact d9) hout hRframes (by simp only [List.map_cons, List.sum_cons, hcat]; omega) hlocks
  obtain ⟨f1, f2⟩ := vx_frame hsame
  rw [hhp] at f1 f2
  have hWs : s.WarmedH U.vm := State.WarmedH.trans hW0 hW
  have hcl : s.vm.findClass cls = some ce.cls := by
    have h9 := hO.cls
    rw [hvm] at h9
    exact h9
  have hall : s.sameButNew ({ U with vm := s.vm } : State) locs mc ms := by
    subst hA
    obtain ⟨e1, e2⟩ := hsame
    rw [State.setFrames_setFrames] at e1
    have h2 : (T.setVm s.vm).sameButNew ({ U with vm := s.vm } : State) [] (0 + 1) (0 + 6) := ⟨e1, e2⟩
    have h3 := X.same.trans h2
    rw [List.append_nil] at h3
    exact h3.mono hc hs
  refine ⟨U, ?_, .threw T.heap.size, hrun, hend, Or.inr ⟨T.heap.size, rfl, cls, ce, locs, hx U hWs.alike f1 (fun q hq => f2 q hq (fun z hz => nomatch hz)), hce, hO.vm, hcl, hWs, hall, hf⟩⟩
  refine st1 _ ?_
  show Steps p.tables e below (T1.setTop { method := m, pc := pc + 3, locals := ls, stack := .ref T.heap.size :: rest, locked := none }) _
  jvm_step X₁.here [X₁.here.top, hexec, d3', Value.category]
  exact X₁.ldcString hexec (own := own) (text := text) (index := is) (a := sa) hown' hstr'.1 hstr'.2
    (g := { method := m, pc := pc + 4, locals := ls, stack := .ref T.heap.size :: .ref T.heap.size :: rest, locked := none }) rfl d4' _ hsteps
/-- 'throw new E("text")', the text by a wide index -/
theorem vx_throwSW {cc : ByteArray} {pc : Nat} (hexec : p.tables.exec = Jvm.exec) (hb : c.code = cc) (hl : l.stackTraces = false) {own cls text : String} {names : List String} {ik is ic mc ms sa : Nat} {A : Nat → Prop}
    (hown : s.vm.findClass own = some m.cls) (hcls : Bundle.fit cls = true) (hnames : ∀ n ∈ names, Bundle.fit n = true)
    (hk : (Cond.classLink own ik cls).before args s = true) (hini : (Cond.initialized cls).before args s = true) (hstr : vk_R own is text sa s) (hat : ∀ w ∈ vx_atS own ic cls names, w.before args s = true)
    (hgood : ∀ w ∈ Cond.classLink own ik cls :: Cond.initialized cls :: vx_atS own ic cls names, vx_ot w = true)
    (hU : vx_Zq Bundle.tN "UNASSIGNED_STACK" Bundle.steD A s s.heap) (hN : vx_Zq Bundle.tN "SUPPRESSED_SENTINEL" Bundle.listD A s s.heap) (hS : va_S A s.heap H locs) (hsize : ls.size = c.maxLocals)
    (d0 : decode cc pc = .ok (.new ik, 3)) (d3 : decode cc (pc + 3) = .ok (.dup, 1)) (d4 : decode cc (pc + 4) = .ok (.ldc_w is, 3)) (d7 : decode cc (pc + 7) = .ok (.invokespecial ic, 3)) (d10 : decode cc (pc + 10) = .ok (.athrow, 1))
    (hout : ∀ x ∈ c.exceptionTable.toList, covers x (pc + 10) = false)
    (hRframes : names.length + 3 < R.frames) (hRlocals : (rest.map fun v => v.category).sum + (13 * (names.length + 1) + 43) ≤ R.locals) (hRcells : cells + 1 ≤ R.cells) (hRslots : slots + 6 ≤ R.slots) (hlocks : meth.locks = false)
    (hx : ∀ t : State, s.vm.Alike t.vm → H.size ≤ t.heap.size → (∀ q : Nat, q < H.size → t.heap[q]? = H[q]?) → XC cls s t)
    (hf : ∀ z ∈ locs, free z.base) (hc : cells + 1 ≤ mc) (hs : slots + 6 ≤ ms) :
    W p l e R s m args below meth c H locs cells slots (vx_MQ below Qc XC args s mc ms free) (F0 m pc ls rest) := by
  intro T hT X
  have htr : e.platform.stackTraces = false := (show e.platform.stackTraces = l.stackTraces by rw [X.admits.platform]).trans hl
  have Y := vx_rebase X (R' := { frames := R.frames, locals := R.locals, cells := 1, slots := 6 }) (Nat.le_refl _) (Nat.le_refl _) hRcells hRslots
  obtain ⟨s', hA⟩ : ∃ z, z = (T.setVm s.vm).setFrames (.invoking m args :: below) := ⟨_, rfl⟩
  rw [← hA] at Y
  have hvm : s'.vm = s.vm := by rw [hA]; rfl
  have hhp : s'.heap = H := by rw [hA]; exact hT
  have hW0 : s.WarmedH s'.vm := by rw [hvm]; exact State.WarmedH.refl s
  have hat' : ∀ w ∈ vx_atS own ic cls names, w.before args s' = true := fun w hw => vx_ot_at hW0 hvm.symm (hgood w (List.mem_cons_of_mem _ (List.mem_cons_of_mem _ hw))) (hat w hw)
  have hk' : (Cond.classLink own ik cls).before args s' = true := vx_ot_at hW0 hvm.symm (hgood _ List.mem_cons_self) hk
  have hini' : (Cond.initialized cls).before args s' = true := vx_ot_at hW0 hvm.symm (hgood _ (List.mem_cons_of_mem _ List.mem_cons_self)) hini
  have hU' : vx_Zq Bundle.tN "UNASSIGNED_STACK" Bundle.steD A s' s'.heap := by rw [hhp]; exact vx_Zq.moved hW0.alike (hU.kept hS.2.1)
  have hN' : vx_Zq Bundle.tN "SUPPRESSED_SENTINEL" Bundle.listD A s' s'.heap := by rw [hhp]; exact vx_Zq.moved hW0.alike (hN.kept hS.2.1)
  have h : ∀ w ∈ Bundle.ownAtoms own ic cls names, w.before args s' = true := vx_own hat' (vx_isRefq hU'.1) (vx_isRefq hN'.1) hU'.2.word hN'.2.word
  have hown' : s'.vm.findClass own = some m.cls := by rw [hvm]; exact hown
  have hins : (Cond.instantiable cls 6).before args s' = true := h _ (by simp [Bundle.ownAtoms])
  obtain ⟨vm₁, cX, kX, hfX, hkX, -, -, X₁, st1⟩ := Y.newCold hexec (own := own) (C := cls) (index := ik) (n := 6) hown' hk' hins hini'
    (g := F0 m pc ls rest) rfl (by rw [hb]; exact d0) (Nat.le_refl _) (Nat.le_refl _)
  generalize hT1 : (T.setVm vm₁).pushCell { cls := cX, slots := kX.instanceTypes.map defaultValue, vm := .none } = T1 at X₁ st1
  have hcat : (Value.ref T.heap.size).category = 1 := rfl
  have hcellA : T1.heap[T.heap.size]? = some (freshCell cX kX) := by rw [← hT1]; exact State.heap_pushCell_size _ _
  have d3' : decode c.code (pc + 3) = .ok (.dup, 1) := by rw [hb]; exact d3
  have d4' : decode c.code (pc + 4) = .ok (.ldc_w is, 3) := by rw [hb]; exact d4
  have hstr' : vk_R own is text sa s' := vk_R.warm hW0 hstr
  obtain ⟨U, hsteps, hrun, hend, hW, hsame, ce, hce, hO⟩ := X₁.ctorThrowS hexec htr (own := own) (cls := cls) (names := names) (ic := ic) hown' hcls hnames h (fun x hx => nomatch hx) hfX hkX hcellA (by rw [hhp, hT]; exact Nat.le_refl _) (msg := .ref sa) rfl
    (g := { method := m, pc := pc + 7, locals := ls, stack := .ref sa :: .ref T.heap.size :: .ref T.heap.size :: rest, locked := none }) rfl hsize rfl rfl (rest := rest) rfl
    (by rw [hb]; exact d7) (by rw [hb]; exact d10) hout hRframes (by simp only [List.map_cons, List.sum_cons, hcat]; omega) hlocks
  obtain ⟨f1, f2⟩ := vx_frame hsame
  rw [hhp] at f1 f2
  have hWs : s.WarmedH U.vm := State.WarmedH.trans hW0 hW
  have hcl : s.vm.findClass cls = some ce.cls := by
    have h9 := hO.cls
    rw [hvm] at h9
    exact h9
  have hall : s.sameButNew ({ U with vm := s.vm } : State) locs mc ms := by
    subst hA
    obtain ⟨e1, e2⟩ := hsame
    rw [State.setFrames_setFrames] at e1
    have h2 : (T.setVm s.vm).sameButNew ({ U with vm := s.vm } : State) [] (0 + 1) (0 + 6) := ⟨e1, e2⟩
    have h3 := X.same.trans h2
    rw [List.append_nil] at h3
    exact h3.mono hc hs
  refine ⟨U, ?_, .threw T.heap.size, hrun, hend, Or.inr ⟨T.heap.size, rfl, cls, ce, locs, hx U hWs.alike f1 (fun q hq => f2 q hq (fun z hz => nomatch hz)), hce, hO.vm, hcl, hWs, hall, hf⟩⟩
  refine st1 _ ?_
  show Steps p.tables e below (T1.setTop { method := m, pc := pc + 3, locals := ls, stack := .ref T.heap.size :: rest, locked := none }) _
  jvm_step X₁.here [X₁.here.top, hexec, d3', Value.category]
  exact X₁.ldcStringW hexec (own := own) (text := text) (index := is) (a := sa) hown' hstr'.1 hstr'.2
    (g := { method := m, pc := pc + 4, locals := ls, stack := .ref T.heap.size :: .ref T.heap.size :: rest, locked := none }) rfl d4' _ hsteps
end Ends
section Bodies
variable {l : Launch}
theorem vx_ofW {y : MethodName} {ws ws' : List Cond} {rm : Room} {Pc : Array Value → State → Prop} {Qc : Array Value → State → Outcome → State → Prop} {XC : String → State → State → Prop} {mc ms : Nat} {free : Addr → Prop} {cc : ByteArray} {maxL : Nat} {ret : Option FieldType}
    (hy : plainName y.cls = true) (hw : ws = Cond.code y cc maxL ret :: ws')
    (body : ∀ p e s m args below meth c s₁, BodyLoose p l y (headSpec ws rm) cc maxL ret e s m args below meth c s₁ → c.maxLocals = maxL → (∀ x ∈ c.exceptionTable.toList, False) → Pc args s →
      W p l e (headSpec ws rm).room s m args below meth c s.heap [] 0 0 (vx_MQ below Qc XC args s mc ms free) (entryFrame m args maxL)) : vx_Met l y ws rm Pc Qc XC mc ms free := by
  refine MetFree.of_bodyS (code := cc) (maxLocals := maxL) (ret := ret) hy ?_ ?_
  · intro args s m h hn
    obtain ⟨meth, c, h1, h2, h3, h4, h5, h6, -, -⟩ := Cond.code_spec hn (atoms_spec (ws := ws) h _ (by rw [hw]; exact List.mem_cons_self))
    exact ⟨meth, c, h1, h2, h3, h4, h5, h6⟩
  · intro p e s m args below meth c s₁ B hml hP _
    have hh0 : s₁.heap = s.heap := by rw [B.state]; rfl
    have ht : ∀ x ∈ c.exceptionTable.toList, False := by
      obtain ⟨meth9, c9, h1, h2, -, -, -, -, h7, -⟩ := Cond.code_spec B.named (atoms_spec (ws := ws) B.pre _ (by rw [hw]; exact List.mem_cons_self))
      cases Option.some.inj (h1.symm.trans B.method)
      cases Option.some.inj (h2.symm.trans (Stand.of_body B).code)
      intro x hx
      rw [Array.isEmpty_iff.mp h7] at hx
      cases hx
    obtain ⟨t, a1, o, b1, b2, b3⟩ := body p e s m args below meth c s₁ B hml ht hP s₁ hh0 (Stand.of_body B)
    exact ⟨t, o, a1, b1, b2, b3⟩
/-- the table of a body with handlers -/
theorem vx_table {p : Program} {x y : MethodName} {S : Spec} {cc bytes : ByteArray} {maxL maxL' : Nat} {ret ret' : Option FieldType} {e : Env} {s s₁ : State} {m : MethodId} {args : Array Value} {below : List Frame} {meth : Method} {c : Code} {hh : List (Nat × Nat × Nat × Nat)}
    (B : BodyLoose p l y S cc maxL ret e s m args below meth c s₁) (h : (Cond.codeWith y bytes maxL' ret' hh).before args s = true) : c.exceptionTable.toList = tableOf hh := by
  obtain ⟨m9, meth9, c9, hn9, h1, h2, -, -, h6, -⟩ := Cond.codeWith_spec h
  cases Option.some.inj (hn9.symm.trans B.named)
  cases Option.some.inj (h1.symm.trans B.method)
  cases Option.some.inj (h2.symm.trans (Stand.of_body B).code)
  rw [← h6, table_eq]
end Bodies
end VXA
/-! ===== END ===== -/
/-! ===== BEGIN a static call of a method with an exception table ===== -/
section VXS
variable {p : Program} {l : Launch} {e : Env} {R : Room} {s : State} {m : MethodId} {args : Array Value} {below : List Frame} {meth : Method} {c : Code} {T : State} {H : Heap} {locs : List Loc} {cells slots : Nat}
abbrev vx_CSW (R : Room) (s : State) (args : Array Value) (own : String) (index : Nat) (y : MethodName) (bytes : ByteArray) (maxL : Nat) (ret : Option FieldType) (hh : List (Nat × Nat × Nat × Nat)) (ws : List Cond) (rm : Room) (mc ms n : Nat) : Prop :=
  (rm.cells = mc ∧ rm.slots = ms ∧ rm.frames + 1 ≤ R.frames ∧ 8 + (maxL + 11) + rm.locals ≤ R.locals ∧ (∀ w ∈ ws, ∀ (a' : Array Value) (U : State), s.WarmedH U.vm → w.before a' U = true) ∧ Cond.codeWith y bytes maxL ret hh ∈ ws) ∧
  (Cond.codeWith y bytes maxL ret hh).before args s = true ∧ (Cond.initialized y.cls).before args s = true ∧ (y.cls ≠ "java/lang/invoke/MethodHandle" ∧ y.cls ≠ "java/lang/invoke/VarHandle") ∧
  (∀ sig, parseMethodDescriptor y.desc = some sig → n = sig.parameters.length) ∧ (Cond.methodLink own index y).before args s = true ∧ (Cond.static y).before args s = true
theorem vx_cwSW {own : String} {index maxL mc ms : Nat} {y : MethodName} {bytes : ByteArray} {ret : Option FieldType} {hh : List (Nat × Nat × Nat × Nat)} {Ts ws ws' : List Cond} {rm : Room} (n : Nat) (ht : ∀ w ∈ Ts, w.before args s = true) (hT : GoodIn Ts (va_wsS own index y ws)) (hw : ws = Cond.codeWith y bytes maxL ret hh :: ws') (hrc : rm.cells = mc) (hrs : rm.slots = ms)
    (hd : y.cls ≠ "java/lang/invoke/MethodHandle" ∧ y.cls ≠ "java/lang/invoke/VarHandle" ∧ (parseMethodDescriptor y.desc).map (fun d => d.parameters.length) = some n) (hR : rm.frames + 1 ≤ R.frames ∧ 8 + (maxL + 11) + rm.locals ≤ R.locals) :
    vx_CSW R s args own index y bytes maxL ret hh ws rm mc ms n := by
  have ok : ∀ w ∈ va_wsS own index y ws, w.before args s = true := fun w h => ht w (hT w h).1
  have hG : GoodIn Ts ws := fun w h => hT w (by unfold va_wsS; exact List.mem_append_right _ h)
  have hc : Cond.codeWith y bytes maxL ret hh ∈ ws := by rw [hw]; exact List.mem_cons_self
  refine ⟨⟨hrc, hrs, hR.1, hR.2, pay_in ht hG, hc⟩, ht _ (hG _ hc).1, ok _ (by simp [va_wsS]), ⟨hd.1, hd.2.1⟩, fun sig h => ?_, ok _ (by simp [va_wsS]), ok _ (by simp [va_wsS])⟩
  have h2 := hd.2.2
  rw [h] at h2
  exact (Option.some.inj h2).symm
theorem vx_callSW (X : Stand p l e R s m args below meth c T locs cells slots) (hexec : p.tables.exec = Jvm.exec) {own : String} {index : Nat} {y : MethodName} {bytes : ByteArray} {maxL : Nat} {ret : Option FieldType} {hh : List (Nat × Nat × Nat × Nat)}
    (hown : s.vm.findClass own = some m.cls) (hlink : (Cond.methodLink own index y).before args s = true) (hstat : (Cond.static y).before args s = true) (hinit : (Cond.initialized y.cls).before args s = true)
    (hcode : (Cond.codeWith y bytes maxL ret hh).before args s = true) (hy : y.cls ≠ "java/lang/invoke/MethodHandle" ∧ y.cls ≠ "java/lang/invoke/VarHandle")
    {W9 : Nat} {Pre : Pt → Array Value → Prop} {Post : Pt → Array Value → Option Value → Pt → Prop} (hK : Back l R p e below s args y 3 W9 Pre Post)
    {g : JFrame} (hg : g.method = m) (hsize : g.locals.size = c.maxLocals) {argsL rest : List Value} (hlen : ∀ sig, parseMethodDescriptor y.desc = some sig → argsL.length = sig.parameters.length)
    (hstack : g.stack = argsL.reverse ++ rest) (hW : 2 * g.monitorRoom + (rest.map fun v => v.category).sum ≤ W9) (hdg : decode c.code g.pc = .ok (.invokestatic index, 3))
    (hpre : ∀ vm₁, s.WarmedH vm₁ → Pre ⟨T.setVm vm₁, locs, cells, slots⟩ argsL.toArray) :
    ∃ (v : Option Value) (vm₁ : Vm) (B : Pt), s.WarmedH vm₁ ∧ Stand p l e R s m args below meth c B.U B.locs B.cells B.slots ∧ Post ⟨T.setVm vm₁, locs, cells, slots⟩ argsL.toArray v B ∧
      ∀ target, Steps p.tables e below (B.U.setTop { g with pc := g.pc + 3, stack := v.toList ++ rest }) target → Steps p.tables e below (T.setTop g) target := by
  obtain ⟨mk, methM, cM, hnamed, hmethM, -, -, -, -, -, -, hsigM⟩ := Cond.codeWith_spec hcode
  have hstatic : methM.isStatic = true := Cond.static_spec hnamed hmethM hstat
  obtain ⟨kP, hkP, -⟩ := className_of_methodNamed hnamed
  have hinitP : kP.init = .initialized := Cond.initialized_spec (findClass_of_methodNamed hnamed) hkP hinit
  obtain ⟨vm₁, X₁, hstep₁⟩ := X.invokestatic hexec hown hlink hnamed hmethM hstatic hkP hinitP hy (g := g) hg (argsL := argsL) (rest := rest) (hlen _ hsigM) hstack hdg
  obtain ⟨v, B, X', hpost, hsteps⟩ := hK m meth c ⟨T.setVm vm₁, locs, cells, slots⟩ { g with stack := rest } (.invokestatic index) mk argsL.toArray X₁ hg hsize hdg hW (X₁.named hnamed) (hpre vm₁ X₁.warmed)
  exact ⟨v, vm₁, B, X₁.warmed, X', hpost, fun target h => hstep₁ _ fun acts => by rw [doInvoke_state]; exact hsteps.trans h⟩
theorem vx_runSW {y : MethodName} {bytes cc : ByteArray} {maxL nL mc ms n index : Nat} {ret : Option FieldType} {hh : List (Nat × Nat × Nat × Nat)} {ws : List Cond} {rm : Room} {Pc : Array Value → State → Prop} {Qc : Array Value → State → Outcome → State → Prop} {free : Addr → Prop} {Ts : List Cond} {own : String} {As rest : List Value} {g : JFrame}
    (S : CallFix p m c cc nL s args Ts own) (hM : Met l y ws rm Pc Qc mc ms free) (cw : vx_CSW R s args own index y bytes maxL ret hh ws rm mc ms n) (hp : PreS s H Pc As)
    (hg : g.method = m) (hn : As.length = n) (hsize : g.locals.size = nL) (hstack : g.stack = As.reverse ++ rest) (hW : 2 * g.monitorRoom + (rest.map fun v => v.category).sum ≤ 8) (hdg : decode cc g.pc = .ok (.invokestatic index, 3)) (hf : cells + mc ≤ R.cells ∧ slots + ms ≤ R.slots) :
    va_Run p l e R s m args below meth c H locs cells slots mc ms g rest (Qc As.toArray) (free) := by
  obtain ⟨⟨hrc, hrs, hfr, hlo, hws, hcw⟩, hcode, hini, hy, hlen, hl, hstt⟩ := cw
  have hK : Back l R p e below s args y 3 8 (PreOf R mc ms Pc) (PostOf Qc mc ms free) := va_backW (hh := hh) (bytes := bytes) (maxL := maxL) (ret := ret) hM hp.1 hrc hrs hfr hlo hws hcw (fun a' U hW => word_at hW (Or.inl (by first | rfl | simp [Cond.onTables, Cond.keeps, Cond.steady])) hini)
  obtain ⟨hx, hb, hml, ho, -⟩ := S
  intro T hT X
  obtain ⟨v, vm₁, ⟨U', l2, c2, s2⟩, hW₁, X', ⟨g', mk, t, L, e1, e2, hq, h1, hL, h2, h3⟩, st⟩ := vx_callSW X hx (hh := hh) (bytes := bytes) (maxL := maxL) (ret := ret) ho hl hstt hini hcode hy hK hg (hsize.trans hml.symm) (argsL := As) (rest := rest) (fun sig h => hn.trans (hlen sig h)) hstack hW (by rw [hb]; exact hdg)
    (fun vm₁ hW₁ => ⟨hf.1, hf.2, hp.2 (T.setVm vm₁) hT hW₁⟩)
  dsimp only [Pt.U, Pt.locs, Pt.cells, Pt.slots] at X' e1 e2 h1 h2 h3 st
  subst h1; subst h2; subst h3
  exact ⟨v, (T.setVm vm₁).calling g' mk As.toArray, t, U', L, hT, X', hL, e1, e2, hq, st⟩
/-- not caught here, past rows that name other classes: it goes on to the caller -/
theorem vx_outP {p : Program} {l : Launch} {e : Env} {R : Room} {s : State} {m : MethodId} {args : Array Value} {below : List Frame} {meth : Method} {c : Code} {H : Heap} {locs : List Loc} {cells slots : Nat} {free : Addr → Prop} {ls : Array Slot} {rest : List Value} {Qc : Array Value → State → Outcome → State → Prop} {XC : String → State → State → Prop}
    {pc : Nat} {own E : String} {ce : Cell} {q : Addr} {mc ms : Nat} (hown : s.vm.findClass own = some m.cls) (hlocks : meth.locks = false)
    (hpass : ∀ z ∈ c.exceptionTable.toList, covers z pc = false ∨ (z.catchType ≠ 0 ∧ ∃ nm : String, (Cond.classLink own z.catchType nm).before args s = true ∧ va_Nc E nm s)) (hcell : H[q]? = some ce) (hv : ce.vm = .none) (hcl : s.vm.findClass E = some ce.cls)
    (hx : ∀ t : State, t.heap = H → s.vm.Alike t.vm → XC E s t) (hf : ∀ z ∈ locs, free z.base) (hc : cells ≤ mc) (hs : slots ≤ ms) :
    vx_W p l e R s m args below meth c H locs cells slots (vx_MQ below Qc XC args s mc ms free) (F0 m pc ls rest) q := by
  intro T hT X
  have hpl : e.platform.magicAccessors = ({} : Platform).magicAccessors := by rw [X.admits.platform]
  obtain ⟨vm', hW', X', st⟩ := X.outThrough hlocks q (g := F0 m pc ls rest) rfl rfl rfl (cell := ce) (by rw [hT]; exact hcell) (by rw [hv]; rfl)
    (by obtain ⟨k9, h9, -⟩ := Vm.findClass_spec hcl; exact ⟨k9, h9⟩) (fun z hz => by
      rcases hpass z hz with h | ⟨hz0, nm, hl1, hn1⟩
      · exact Or.inl h
      · obtain ⟨c6, hc6, hcl6⟩ := Cond.classLink_spec hown hl1 e.platform hpl
        obtain ⟨a8, b8, h1, h2, h3⟩ := hn1
        cases Option.some.inj (h1.symm.trans hcl)
        cases Option.some.inj (h2.symm.trans hc6)
        exact Or.inr ⟨hz0, _, hcl6, h3⟩)
  obtain ⟨g₀, hfr⟩ := X'.frames_eq
  have hcell9 : ((T.setVm vm').setFrames (.throwing q :: below)).heap[q]? = some ce := by
    show T.heap[q]? = some ce
    rw [hT]; exact hcell
  have hend : Ended ((T.setVm vm').setFrames (.throwing q :: below)) below (.threw q) := State.frames_setFrames _ (State.cur_lt_of_frames hfr)
  refine ⟨(T.setVm vm').setFrames (.throwing q :: below), ?_, .threw q, X'.here.running, hend, Or.inr ⟨q, rfl, E, ce, locs, hx _ hT (X'.ends _).1.alike, hcell9, hv, hcl, (X'.ends _).1, (X'.ends _).2.mono hc hs, hf⟩⟩
  rw [X.pushThrowing_eq]
  exact st
/-- a thing of a world lies in the heap -/
theorem vx_lt {D : va_G} {cl : List vw_C} {ws : va_W} {H1 : Heap} (h : va_P D cl ws H1) {k : Nat} {q : Nat × va_E} (hk : ws[k]? = some q) : q.1 < H1.size := (h k q hk).lt
end VXS
/-! ===== END ===== -/
/-! ===== BEGIN methods with a table of their own: called by a name, returning or throwing ===== -/
section VXH
/-! vx_backW, vx_callVX, vx_callSX, vx_callVW, vx_runVW, vx_runVX, vx_runSX, vx_ofWH follow the same proofs as their sisters above (Free/Laws.lean, Shelf42/LK1.lean); vx_outP calls Shelf42/NT130.lean (outThrough). -/
section
variable {l : Launch} {R : Room} {p : Program} {e : Env} {below : List Frame} {s : State} {sargs : Array Value} {y : MethodName} {len W9 : Nat}
theorem vx_backW {ws : List Cond} {rm : Room} {Pc : Array Value → State → Prop} {Qc : Array Value → State → Outcome → State → Prop} {XC : String → State → State → Prop} {mc ms : Nat} {free : Addr → Prop} {bytes : ByteArray} {maxL : Nat} {ret : Option FieldType} {hh : List (Nat × Nat × Nat × Nat)}
    (hM : vx_Met l y ws rm Pc Qc XC mc ms free) (hblind : FrameBlind Pc) (hrc : rm.cells = mc) (hrs : rm.slots = ms)
    (hframes : rm.frames + 1 ≤ R.frames) (hlocals : W9 + (maxL + 11) + rm.locals ≤ R.locals)
    (hws : ∀ w ∈ ws, ∀ a' U, s.WarmedH U.vm → w.before a' U = true) (hcode : Cond.codeWith y bytes maxL ret hh ∈ ws) (hinit : ∀ a' U, s.WarmedH U.vm → (Cond.initialized y.cls).before a' U = true) :
    vx_Back l R p e below s sargs y len W9 (PreOf R mc ms Pc) (PostOf Qc mc ms free) (vx_Post XC mc ms free) := by
  intro m meth c A g ig mk a X hg hsize hdg hW hn hp
  have h1 : (headSpec ws rm).pre.before a A.U = true := atoms_intro fun w hw => hws w hw _ _ X.warmed
  have h2 : (Cond.codeWith y bytes maxL ret hh).before a A.U = true := hws _ hcode _ _ X.warmed
  have h3 : (Cond.initialized y.cls).before a A.U = true := hinit _ _ X.warmed
  have h4 : A.cells + (headSpec ws rm).room.cells ≤ R.cells := by rw [show (headSpec ws rm).room.cells = mc from hrc]; exact hp.1
  have h5 : A.slots + (headSpec ws rm).room.slots ≤ R.slots := by rw [show (headSpec ws rm).room.slots = ms from hrs]; exact hp.2.1
  have hPc : Pc a (A.U.calling g mk a) := hblind _ _ _ _ hp.2.2
  obtain ⟨U, Ls, c0, s0⟩ := A
  dsimp only [Pt.U, Pt.locs, Pt.cells, Pt.slots] at h1 h2 h3 h4 h5 X hn hPc ⊢
  obtain ⟨m9, methY, cY, hn9, hmY, hcY, -, hlY, -⟩ := Cond.codeWith_spec h2
  cases Option.some.inj (hn9.symm.trans hn)
  obtain ⟨kY, hkY, -⟩ := className_of_methodNamed hn
  have hinitY : kY.init = .initialized := Cond.initialized_spec (findClass_of_methodNamed hn) hkY h3
  have h : At U g.method c below := by rw [hg]; exact X.here
  have hlocals9 : W9 + (maxL + 11) + (headSpec ws rm).room.locals ≤ R.locals := hlocals
  have happ : (headSpec ws rm).appliesLoose y e.platform (U.calling g mk a) = true :=
    Spec.appliesLoose_calling (g := g) h hdg hn hkY hinitY
      (X.room_calling (g := g) (R' := (headSpec ws rm).room) hsize hmY hcY hframes (by rw [hlY]; omega) h4 h5) h1
  obtain ⟨mid, hmid⟩ := h.above
  have hfr : (U.setTop g).frames = (.java g :: mid) ++ below := by rw [State.frames_setTop' g h.top, hmid]; rfl
  obtain ⟨o, s₂, hsteps, -, hend, hq⟩ := Steps.callFree hM p X.admits X.cas X.clock (acts := []) hfr happ hPc trivial
  have hq' : vx_Q Qc XC mc ms free a (U.calling g mk a) o s₂ := hq
  rw [State.frames_setTop' g h.top] at hend
  obtain ⟨g₀, hg0⟩ := Option.isSome_iff_exists.mp h.top
  obtain ⟨r, hr⟩ := State.topJava?_eq_some.mp hg0
  have hr' : (({ U with heap := s₂.heap, slotsUsed := s₂.slotsUsed } : State).setVm s₂.vm).frames = .java g₀ :: r := hr
  rcases hq' with ⟨hqc, L, hfe, hL⟩ | ⟨q, rfl, E, ce, L, hx, hce, hcv, hcl, hW₂, hsm, hL⟩
  · obtain ⟨⟨v, rfl⟩, hW₂, e2, q2, q3, q4, q5, q6⟩ := id hfe
    have e3 : s₂ = ({ (U.calling g mk a).setFrames s₂.frames with heap := s₂.heap, slotsUsed := s₂.slotsUsed } : State).setVm s₂.vm := by
      have : s₂ = ({ s₂ with vm := (U.calling g mk a).vm } : State).setVm s₂.vm := rfl
      rw [e2] at this
      exact this
    obtain ⟨c₂, i₂, len₂, hc₂, hd₂, hf₂⟩ := hend
    have hW' : U.WarmedH s₂.vm := hW₂
    have hcc : c₂ = c := by
      have h1 : s₂.code? g.method = U.code? g.method := by
        rw [State.code?_eq, State.code?_eq, hW'.alike.method?]
      exact Option.some.inj (hc₂.symm.trans (h1.trans h.code))
    subst hcc
    have hlen : len₂ = len := by rw [hdg] at hd₂; cases hd₂; rfl
    subst hlen
    have hs₂ : s₂ = (({ U with heap := s₂.heap, slotsUsed := s₂.slotsUsed } : State).setVm s₂.vm).setTop { g with pc := g.pc + len₂, stack := v.toList ++ g.stack } := by
      refine e3.trans ?_
      rw [hf₂, State.calling_eq h.top, State.setFrames_setFrames, State.setTop_of_frames _ hr', hr]
      rfl
    have hsame : U.sameButNew ({ U with heap := s₂.heap, slotsUsed := s₂.slotsUsed } : State) L mc ms := by
      refine ⟨?_, q2, q3, q4, q5, q6⟩
      obtain ⟨t, ht, -⟩ := State.frames_cons hr
      show ({ U with heap := s₂.heap, slotsUsed := s₂.slotsUsed } : State) = { U.setFrames U.frames with heap := s₂.heap, slotsUsed := s₂.slotsUsed }
      rw [State.setFrames_self ht]
    subst hg
    refine Or.inl ⟨v, ⟨(({ U with heap := s₂.heap, slotsUsed := s₂.slotsUsed } : State).setVm s₂.vm), Ls ++ L, c0 + mc, s0 + ms⟩,
      ⟨X.admits, X.cas, X.clock, X.frames, X.room, X.hears, X.method, X.code, (X.here.setHeapUsed s₂.heap s₂.slotsUsed).setVm hW'.alike, X.tail, State.WarmedH.trans X.warmed hW', X.limits, X.bytes, X.same.trans (hsame.setVm s.vm)⟩,
      ⟨g, mk, s₂, L, rfl, rfl, hqc, rfl, hL, rfl, rfl⟩, ?_⟩
    show Steps p.tables e below _ ((({ U with heap := s₂.heap, slotsUsed := s₂.slotsUsed } : State).setVm s₂.vm).setTop { g with pc := g.pc + len₂, stack := v.toList ++ g.stack })
    rw [← hs₂]
    exact hsteps
  · obtain ⟨e2, q2, q3, q4, q5, q6⟩ := id hsm
    have e3 : s₂ = ({ (U.calling g mk a).setFrames s₂.frames with heap := s₂.heap, slotsUsed := s₂.slotsUsed } : State).setVm s₂.vm := by
      have : s₂ = ({ s₂ with vm := (U.calling g mk a).vm } : State).setVm s₂.vm := rfl
      rw [e2] at this
      exact this
    have hf₂ : s₂.frames = .throwing q :: .java g :: U.frames.tail := hend
    have hW' : U.WarmedH s₂.vm := hW₂
    have hs₂ : s₂ = ((({ U with heap := s₂.heap, slotsUsed := s₂.slotsUsed } : State).setVm s₂.vm).setTop g).pushFrame (.throwing q) := by
      refine e3.trans ?_
      rw [hf₂, State.calling_eq h.top, State.setFrames_setFrames, State.pushFrame, State.frames_setTop _ hr', State.setTop_of_frames _ hr', State.setFrames_setFrames, hr]
      rfl
    have hsame : U.sameButNew ({ U with heap := s₂.heap, slotsUsed := s₂.slotsUsed } : State) L mc ms := by
      refine ⟨?_, q2, q3, q4, q5, q6⟩
      obtain ⟨t, ht, -⟩ := State.frames_cons hr
      show ({ U with heap := s₂.heap, slotsUsed := s₂.slotsUsed } : State) = { U.setFrames U.frames with heap := s₂.heap, slotsUsed := s₂.slotsUsed }
      rw [State.setFrames_self ht]
    subst hg
    refine Or.inr ⟨q, ⟨(({ U with heap := s₂.heap, slotsUsed := s₂.slotsUsed } : State).setVm s₂.vm), Ls ++ L, c0 + mc, s0 + ms⟩,
      ⟨X.admits, X.cas, X.clock, X.frames, X.room, X.hears, X.method, X.code, (X.here.setHeapUsed s₂.heap s₂.slotsUsed).setVm hW'.alike, X.tail, State.WarmedH.trans X.warmed hW', X.limits, X.bytes, X.same.trans (hsame.setVm s.vm)⟩,
      ⟨g, mk, s₂, L, E, ce, rfl, rfl, hx, hce, hcv, hcl, rfl, hL, rfl, rfl⟩, ?_⟩
    show Steps p.tables e below _ (((({ U with heap := s₂.heap, slotsUsed := s₂.slotsUsed } : State).setVm s₂.vm).setTop g).pushFrame (.throwing q))
    rw [← hs₂]
    exact hsteps
end
variable {p : Program} {l : Launch} {e : Env} {R : Room} {s : State} {m : MethodId} {args : Array Value} {below : List Frame} {meth : Method} {c : Code} {T : State} {H : Heap} {locs : List Loc} {cells slots : Nat}
theorem vx_callVX (X : Stand p l e R s m args below meth c T locs cells slots) (hexec : p.tables.exec = Jvm.exec) {own C : String} {index : Nat} {y : MethodName} {bytes : ByteArray} {maxL : Nat} {ret : Option FieldType} {hh : List (Nat × Nat × Nat × Nat)}
    (hown : s.vm.findClass own = some m.cls) (hlink : (Cond.methodLink own index y).before args s = true) (hinst : (Cond.instanceMethod y).before args s = true) (hsel : (Cond.selects C y y).before args s = true)
    (hcode : (Cond.codeWith y bytes maxL ret hh).before args s = true) (hy : y.cls ≠ "java/lang/invoke/MethodHandle" ∧ y.cls ≠ "java/lang/invoke/VarHandle")
    {W9 : Nat} {Pre : Pt → Array Value → Prop} {Post : Pt → Array Value → Option Value → Pt → Prop} {PostX : Pt → Array Value → Addr → Pt → Prop} (hK : vx_Back l R p e below s args y 3 W9 Pre Post PostX)
    {b : Addr} {cellB : Cell} (hcell : T.heap[b]? = some cellB) (hobj : cellB.vm.isStatics = false) (hcls : s.vm.findClass C = some cellB.cls)
    {g : JFrame} (hg : g.method = m) (hsize : g.locals.size = c.maxLocals) {argsL rest : List Value} (hlen : ∀ sig, parseMethodDescriptor y.desc = some sig → argsL.length = sig.parameters.length)
    (hstack : g.stack = argsL.reverse ++ .ref b :: rest) (hW : 2 * g.monitorRoom + (rest.map fun v => v.category).sum ≤ W9) (hdg : decode c.code g.pc = .ok (.invokevirtual index, 3))
    (hpre : ∀ vm₁, s.WarmedH vm₁ → Pre ⟨T.setVm vm₁, locs, cells, slots⟩ (Value.ref b :: argsL).toArray) :
    (∃ (v : Option Value) (vm₁ : Vm) (B : Pt), s.WarmedH vm₁ ∧ Stand p l e R s m args below meth c B.U B.locs B.cells B.slots ∧ Post ⟨T.setVm vm₁, locs, cells, slots⟩ (Value.ref b :: argsL).toArray v B ∧
      ∀ target, Steps p.tables e below (B.U.setTop { g with pc := g.pc + 3, stack := v.toList ++ rest }) target → Steps p.tables e below (T.setTop g) target) ∨
    (∃ (q : Addr) (vm₁ : Vm) (B : Pt), s.WarmedH vm₁ ∧ Stand p l e R s m args below meth c B.U B.locs B.cells B.slots ∧ PostX ⟨T.setVm vm₁, locs, cells, slots⟩ (Value.ref b :: argsL).toArray q B ∧
      Steps p.tables e below (T.setTop g) ((B.U.setTop { g with stack := rest }).pushFrame (.throwing q))) := by
  obtain ⟨mk, methM, hnamed, hmethM, hstM, habM⟩ := Cond.instanceMethod_spec hinst
  obtain ⟨m8, methM', cM, hn8, hmethM', -, -, -, -, -, -, hsigM⟩ := Cond.codeWith_spec hcode
  cases Option.some.inj (hn8.symm.trans hnamed)
  cases hmethM.symm.trans hmethM'
  obtain ⟨c2, r2, m2, q1, q2, q3, q4, kP, hkP, hkPi⟩ := Cond.selects_spec hsel
  cases hcls.symm.trans q1
  cases (State.methodFound?_of_named hnamed hy).symm.trans q2
  cases hnamed.symm.trans q3
  have hselP : selectMethod e.platform s.vm cellB.cls mk = .method mk := by rw [Launch.admits_selectMethod X.admits]; exact q4
  obtain ⟨vm₁, X₁, hstep₁⟩ := X.invokevirtual hexec hown hlink hnamed hmethM hstM hkP hkPi hy (a := b) (cell := cellB) hcell
    (fun z h => by rw [h] at hobj; cases hobj) hselP hmethM habM hkP hkPi (g := g) hg (argsL := argsL) (rest := rest) (hlen _ hsigM) hstack hdg
  rcases hK m meth c ⟨T.setVm vm₁, locs, cells, slots⟩ { g with stack := rest } (.invokevirtual index) mk (Value.ref b :: argsL).toArray X₁ hg hsize hdg hW (X₁.named hnamed) (hpre vm₁ X₁.warmed) with ⟨v, B, X', hpost, hsteps⟩ | ⟨q, B, X', hpost, hsteps⟩
  · exact Or.inl ⟨v, vm₁, B, X₁.warmed, X', hpost, fun target h => hstep₁ _ fun acts => by rw [doInvoke_state]; exact hsteps.trans h⟩
  · exact Or.inr ⟨q, vm₁, B, X₁.warmed, X', hpost, hstep₁ _ fun acts => by rw [doInvoke_state]; exact hsteps⟩
theorem vx_callSX (X : Stand p l e R s m args below meth c T locs cells slots) (hexec : p.tables.exec = Jvm.exec) {own : String} {index : Nat} {y : MethodName} {bytes : ByteArray} {maxL : Nat} {ret : Option FieldType} {hh : List (Nat × Nat × Nat × Nat)}
    (hown : s.vm.findClass own = some m.cls) (hlink : (Cond.methodLink own index y).before args s = true) (hstat : (Cond.static y).before args s = true) (hinit : (Cond.initialized y.cls).before args s = true)
    (hcode : (Cond.codeWith y bytes maxL ret hh).before args s = true) (hy : y.cls ≠ "java/lang/invoke/MethodHandle" ∧ y.cls ≠ "java/lang/invoke/VarHandle")
    {W9 : Nat} {Pre : Pt → Array Value → Prop} {Post : Pt → Array Value → Option Value → Pt → Prop} {PostX : Pt → Array Value → Addr → Pt → Prop} (hK : vx_Back l R p e below s args y 3 W9 Pre Post PostX)
    {g : JFrame} (hg : g.method = m) (hsize : g.locals.size = c.maxLocals) {argsL rest : List Value} (hlen : ∀ sig, parseMethodDescriptor y.desc = some sig → argsL.length = sig.parameters.length)
    (hstack : g.stack = argsL.reverse ++ rest) (hW : 2 * g.monitorRoom + (rest.map fun v => v.category).sum ≤ W9) (hdg : decode c.code g.pc = .ok (.invokestatic index, 3))
    (hpre : ∀ vm₁, s.WarmedH vm₁ → Pre ⟨T.setVm vm₁, locs, cells, slots⟩ argsL.toArray) :
    (∃ (v : Option Value) (vm₁ : Vm) (B : Pt), s.WarmedH vm₁ ∧ Stand p l e R s m args below meth c B.U B.locs B.cells B.slots ∧ Post ⟨T.setVm vm₁, locs, cells, slots⟩ argsL.toArray v B ∧
      ∀ target, Steps p.tables e below (B.U.setTop { g with pc := g.pc + 3, stack := v.toList ++ rest }) target → Steps p.tables e below (T.setTop g) target) ∨
    (∃ (q : Addr) (vm₁ : Vm) (B : Pt), s.WarmedH vm₁ ∧ Stand p l e R s m args below meth c B.U B.locs B.cells B.slots ∧ PostX ⟨T.setVm vm₁, locs, cells, slots⟩ argsL.toArray q B ∧
      Steps p.tables e below (T.setTop g) ((B.U.setTop { g with stack := rest }).pushFrame (.throwing q))) := by
  obtain ⟨mk, methM, cM, hnamed, hmethM, -, -, -, -, -, -, hsigM⟩ := Cond.codeWith_spec hcode
  have hstatic : methM.isStatic = true := Cond.static_spec hnamed hmethM hstat
  obtain ⟨kP, hkP, -⟩ := className_of_methodNamed hnamed
  have hinitP : kP.init = .initialized := Cond.initialized_spec (findClass_of_methodNamed hnamed) hkP hinit
  obtain ⟨vm₁, X₁, hstep₁⟩ := X.invokestatic hexec hown hlink hnamed hmethM hstatic hkP hinitP hy (g := g) hg (argsL := argsL) (rest := rest) (hlen _ hsigM) hstack hdg
  rcases hK m meth c ⟨T.setVm vm₁, locs, cells, slots⟩ { g with stack := rest } (.invokestatic index) mk argsL.toArray X₁ hg hsize hdg hW (X₁.named hnamed) (hpre vm₁ X₁.warmed) with ⟨v, B, X', hpost, hsteps⟩ | ⟨q, B, X', hpost, hsteps⟩
  · exact Or.inl ⟨v, vm₁, B, X₁.warmed, X', hpost, fun target h => hstep₁ _ fun acts => by rw [doInvoke_state]; exact hsteps.trans h⟩
  · exact Or.inr ⟨q, vm₁, B, X₁.warmed, X', hpost, hstep₁ _ fun acts => by rw [doInvoke_state]; exact hsteps⟩
theorem vx_callVW (X : Stand p l e R s m args below meth c T locs cells slots) (hexec : p.tables.exec = Jvm.exec) {own C : String} {index : Nat} {y : MethodName} {bytes : ByteArray} {maxL : Nat} {ret : Option FieldType} {hh : List (Nat × Nat × Nat × Nat)}
    (hown : s.vm.findClass own = some m.cls) (hlink : (Cond.methodLink own index y).before args s = true) (hinst : (Cond.instanceMethod y).before args s = true) (hsel : (Cond.selects C y y).before args s = true)
    (hcode : (Cond.codeWith y bytes maxL ret hh).before args s = true) (hy : y.cls ≠ "java/lang/invoke/MethodHandle" ∧ y.cls ≠ "java/lang/invoke/VarHandle")
    {W9 : Nat} {Pre : Pt → Array Value → Prop} {Post : Pt → Array Value → Option Value → Pt → Prop} (hK : Back l R p e below s args y 3 W9 Pre Post)
    {b : Addr} {cellB : Cell} (hcell : T.heap[b]? = some cellB) (hobj : cellB.vm.isStatics = false) (hcls : s.vm.findClass C = some cellB.cls)
    {g : JFrame} (hg : g.method = m) (hsize : g.locals.size = c.maxLocals) {argsL rest : List Value} (hlen : ∀ sig, parseMethodDescriptor y.desc = some sig → argsL.length = sig.parameters.length)
    (hstack : g.stack = argsL.reverse ++ .ref b :: rest) (hW : 2 * g.monitorRoom + (rest.map fun v => v.category).sum ≤ W9) (hdg : decode c.code g.pc = .ok (.invokevirtual index, 3))
    (hpre : ∀ vm₁, s.WarmedH vm₁ → Pre ⟨T.setVm vm₁, locs, cells, slots⟩ (Value.ref b :: argsL).toArray) :
    ∃ (v : Option Value) (vm₁ : Vm) (B : Pt), s.WarmedH vm₁ ∧ Stand p l e R s m args below meth c B.U B.locs B.cells B.slots ∧ Post ⟨T.setVm vm₁, locs, cells, slots⟩ (Value.ref b :: argsL).toArray v B ∧
      ∀ target, Steps p.tables e below (B.U.setTop { g with pc := g.pc + 3, stack := v.toList ++ rest }) target → Steps p.tables e below (T.setTop g) target := by
  obtain ⟨mk, methM, hnamed, hmethM, hstM, habM⟩ := Cond.instanceMethod_spec hinst
  obtain ⟨m8, methM', cM, hn8, hmethM', -, -, -, -, -, -, hsigM⟩ := Cond.codeWith_spec hcode
  cases Option.some.inj (hn8.symm.trans hnamed)
  cases hmethM.symm.trans hmethM'
  obtain ⟨c2, r2, m2, q1, q2, q3, q4, kP, hkP, hkPi⟩ := Cond.selects_spec hsel
  cases hcls.symm.trans q1
  cases (State.methodFound?_of_named hnamed hy).symm.trans q2
  cases hnamed.symm.trans q3
  have hselP : selectMethod e.platform s.vm cellB.cls mk = .method mk := by rw [Launch.admits_selectMethod X.admits]; exact q4
  obtain ⟨vm₁, X₁, hstep₁⟩ := X.invokevirtual hexec hown hlink hnamed hmethM hstM hkP hkPi hy (a := b) (cell := cellB) hcell
    (fun z h => by rw [h] at hobj; cases hobj) hselP hmethM habM hkP hkPi (g := g) hg (argsL := argsL) (rest := rest) (hlen _ hsigM) hstack hdg
  obtain ⟨v, B, X', hpost, hsteps⟩ := hK m meth c ⟨T.setVm vm₁, locs, cells, slots⟩ { g with stack := rest } (.invokevirtual index) mk (Value.ref b :: argsL).toArray X₁ hg hsize hdg hW (X₁.named hnamed) (hpre vm₁ X₁.warmed)
  exact ⟨v, vm₁, B, X₁.warmed, X', hpost, fun target h => hstep₁ _ fun acts => by rw [doInvoke_state]; exact hsteps.trans h⟩
abbrev vx_CVW (R : Room) (s : State) (args : Array Value) (own C : String) (index : Nat) (y : MethodName) (bytes : ByteArray) (maxL : Nat) (ret : Option FieldType) (hh : List (Nat × Nat × Nat × Nat)) (ws : List Cond) (rm : Room) (mc ms n : Nat) : Prop :=
  (rm.cells = mc ∧ rm.slots = ms ∧ rm.frames + 1 ≤ R.frames ∧ 8 + (maxL + 11) + rm.locals ≤ R.locals ∧ (∀ w ∈ ws, ∀ (a' : Array Value) (U : State), s.WarmedH U.vm → w.before a' U = true) ∧ Cond.codeWith y bytes maxL ret hh ∈ ws) ∧
  (Cond.codeWith y bytes maxL ret hh).before args s = true ∧ (Cond.initialized y.cls).before args s = true ∧ (y.cls ≠ "java/lang/invoke/MethodHandle" ∧ y.cls ≠ "java/lang/invoke/VarHandle") ∧
  (∀ sig, parseMethodDescriptor y.desc = some sig → n = sig.parameters.length) ∧ (Cond.methodLink own index y).before args s = true ∧ (Cond.instanceMethod y).before args s = true ∧ (Cond.selects C y y).before args s = true
theorem vx_cwVW {own C : String} {index maxL mc ms : Nat} {y : MethodName} {bytes : ByteArray} {ret : Option FieldType} {hh : List (Nat × Nat × Nat × Nat)} {Ts ws ws' : List Cond} {rm : Room} (n : Nat) (ht : ∀ w ∈ Ts, w.before args s = true) (hT : GoodIn Ts (wsV own index C y ws)) (hw : ws = Cond.codeWith y bytes maxL ret hh :: ws') (hrc : rm.cells = mc) (hrs : rm.slots = ms)
    (hd : y.cls = C ∧ y.cls ≠ "java/lang/invoke/MethodHandle" ∧ y.cls ≠ "java/lang/invoke/VarHandle" ∧ (parseMethodDescriptor y.desc).map (fun d => d.parameters.length) = some n) (hR : rm.frames + 1 ≤ R.frames ∧ 8 + (maxL + 11) + rm.locals ≤ R.locals) :
    vx_CVW R s args own C index y bytes maxL ret hh ws rm mc ms n := by
  obtain ⟨hC, hd⟩ := hd
  subst hC
  have ok : ∀ w ∈ wsV own index y.cls y ws, w.before args s = true := fun w h => ht w (hT w h).1
  have hG : GoodIn Ts ws := fun w h => hT w (by unfold wsV; exact List.mem_append_right _ h)
  have hc : Cond.codeWith y bytes maxL ret hh ∈ ws := by rw [hw]; exact List.mem_cons_self
  refine ⟨⟨hrc, hrs, hR.1, hR.2, pay_in ht hG, hc⟩, ht _ (hG _ hc).1, ok _ (by simp [wsV]), ⟨hd.1, hd.2.1⟩, fun sig h => ?_, ok _ (by simp [wsV]), ok _ (by simp [wsV]), ok _ (by simp [wsV])⟩
  have h2 := hd.2.2
  rw [h] at h2
  exact (Option.some.inj h2).symm
theorem vx_runVW {y : MethodName} {bytes cc : ByteArray} {maxL nL mc ms n index : Nat} {ret : Option FieldType} {hh : List (Nat × Nat × Nat × Nat)} {ws : List Cond} {rm : Room} {Pc : Array Value → State → Prop} {Qc : Array Value → State → Outcome → State → Prop} {free : Addr → Prop} {Ts : List Cond} {own C : String} {b : Addr} {As rest : List Value} {g : JFrame}
    (S : CallFix p m c cc nL s args Ts own) (hM : Met l y ws rm Pc Qc mc ms free) (cw : vx_CVW R s args own C index y bytes maxL ret hh ws rm mc ms n) (hp : PreV s H C b Pc As)
    (hg : g.method = m) (hn : As.length = n) (hsize : g.locals.size = nL) (hstack : g.stack = As.reverse ++ .ref b :: rest) (hW : 2 * g.monitorRoom + (rest.map fun v => v.category).sum ≤ 8) (hdg : decode cc g.pc = .ok (.invokevirtual index, 3)) (hf : cells + mc ≤ R.cells ∧ slots + ms ≤ R.slots) :
    va_Run p l e R s m args below meth c H locs cells slots mc ms g rest (Qc (Value.ref b :: As).toArray) free := by
  obtain ⟨⟨hrc, hrs, hfr, hlo, hws, hcw⟩, hcode, hini, hy, hlen, hl, hin, hse⟩ := cw
  have hK : Back l R p e below s args y 3 8 (PreOf R mc ms Pc) (PostOf Qc mc ms free) := va_backW (hh := hh) (bytes := bytes) (maxL := maxL) (ret := ret) hM hp.1 hrc hrs hfr hlo hws hcw (fun a' U hW => word_at hW (Or.inl (by first | rfl | simp [Cond.onTables, Cond.keeps, Cond.steady])) hini)
  obtain ⟨hx, hb, hml, ho, -⟩ := S
  obtain ⟨-, ⟨cellB, hcB, hoB, hclB⟩, hPc⟩ := hp
  intro T hT X
  obtain ⟨v, vm₁, ⟨U', l2, c2, s2⟩, hW₁, X', ⟨g', mk, t, L, e1, e2, hq, h1, hL, h2, h3⟩, st⟩ := vx_callVW X hx (C := C) (hh := hh) (bytes := bytes) (maxL := maxL) (ret := ret) ho hl hin hse hcode hy hK (by rw [hT]; exact hcB) hoB hclB hg (hsize.trans hml.symm) (argsL := As) (rest := rest) (fun sig h => hn.trans (hlen sig h)) hstack hW (by rw [hb]; exact hdg)
    (fun vm₁ hW₁ => ⟨hf.1, hf.2, hPc (T.setVm vm₁) hT hW₁⟩)
  dsimp only [Pt.U, Pt.locs, Pt.cells, Pt.slots] at X' e1 e2 h1 h2 h3 st
  subst h1; subst h2; subst h3
  exact ⟨v, (T.setVm vm₁).calling g' mk (Value.ref b :: As).toArray, t, U', L, hT, X', hL, e1, e2, hq, st⟩
section
variable {y : MethodName} {bytes cc : ByteArray} {maxL nL mc ms n index : Nat} {ret : Option FieldType} {ws : List Cond} {rm : Room} {Pc : Array Value → State → Prop} {Qc : Array Value → State → Outcome → State → Prop} {XC : String → State → State → Prop} {free : Addr → Prop} {Ts : List Cond} {own C : String} {b : Addr} {As rest : List Value} {g : JFrame}
theorem vx_runVX {hh : List (Nat × Nat × Nat × Nat)} (S : CallFix p m c cc nL s args Ts own) (hM : vx_Met l y ws rm Pc Qc XC mc ms free) (cw : vx_CVW R s args own C index y bytes maxL ret hh ws rm mc ms n) (hp : PreV s H C b Pc As)
    (hg : g.method = m) (hn : As.length = n) (hsize : g.locals.size = nL) (hstack : g.stack = As.reverse ++ .ref b :: rest) (hW : 2 * g.monitorRoom + (rest.map fun v => v.category).sum ≤ 8) (hdg : decode cc g.pc = .ok (.invokevirtual index, 3)) (hf : cells + mc ≤ R.cells ∧ slots + ms ≤ R.slots) :
    vx_Run p l e R s m args below meth c H locs cells slots mc ms g rest (Qc (Value.ref b :: As).toArray) XC free := by
  obtain ⟨⟨hrc, hrs, hfr, hlo, hws, hcw⟩, hcode, hini, hy, hlen, hl, hin, hse⟩ := cw
  have hK : vx_Back l R p e below s args y 3 8 (PreOf R mc ms Pc) (PostOf Qc mc ms free) (vx_Post XC mc ms free) := vx_backW (hh := hh) (bytes := bytes) (maxL := maxL) (ret := ret) hM hp.1 hrc hrs hfr hlo hws hcw (fun a' U hW => word_at hW (Or.inl (by first | rfl | simp [Cond.onTables, Cond.keeps, Cond.steady])) hini)
  obtain ⟨hx, hb, hml, ho, -⟩ := S
  obtain ⟨-, ⟨cellB, hcB, hoB, hclB⟩, hPc⟩ := hp
  intro T hT X
  rcases vx_callVX X hx (C := C) (hh := hh) (bytes := bytes) (maxL := maxL) (ret := ret) ho hl hin hse hcode hy hK (by rw [hT]; exact hcB) hoB hclB hg (hsize.trans hml.symm) (argsL := As) (rest := rest) (fun sig h => hn.trans (hlen sig h)) hstack hW (by rw [hb]; exact hdg)
    (fun vm₁ hW₁ => ⟨hf.1, hf.2, hPc (T.setVm vm₁) hT hW₁⟩) with ⟨v, vm₁, ⟨U', l2, c2, s2⟩, hW₁, X', ⟨g', mk, t, L, e1, e2, hq, h1, hL, h2, h3⟩, st⟩ | ⟨q, vm₁, ⟨U', l2, c2, s2⟩, hW₁, X', ⟨g', mk, t, L, E, ce, e1, e2, hq, hce, hcv, hcl, h1, hL, h2, h3⟩, st⟩
  · dsimp only [Pt.U, Pt.locs, Pt.cells, Pt.slots] at X' e1 e2 h1 h2 h3 st
    subst h1; subst h2; subst h3
    exact Or.inl ⟨v, (T.setVm vm₁).calling g' mk (Value.ref b :: As).toArray, t, U', L, hT, X', hL, e1, e2, hq, st⟩
  · dsimp only [Pt.U, Pt.locs, Pt.cells, Pt.slots] at X' e1 e2 h1 h2 h3 st hcl
    subst h1; subst h2; subst h3
    exact Or.inr ⟨q, (T.setVm vm₁).calling g' mk (Value.ref b :: As).toArray, t, U', L, E, ce, hT, X', hL, e1, e2, hq, hce, hcv, vx_cls hW₁ hcl, st⟩
theorem vx_runSX {hh : List (Nat × Nat × Nat × Nat)} (S : CallFix p m c cc nL s args Ts own) (hM : vx_Met l y ws rm Pc Qc XC mc ms free) (cw : vx_CSW R s args own index y bytes maxL ret hh ws rm mc ms n) (hp : PreS s H Pc As)
    (hg : g.method = m) (hn : As.length = n) (hsize : g.locals.size = nL) (hstack : g.stack = As.reverse ++ rest) (hW : 2 * g.monitorRoom + (rest.map fun v => v.category).sum ≤ 8) (hdg : decode cc g.pc = .ok (.invokestatic index, 3)) (hf : cells + mc ≤ R.cells ∧ slots + ms ≤ R.slots) :
    vx_Run p l e R s m args below meth c H locs cells slots mc ms g rest (Qc As.toArray) XC free := by
  obtain ⟨⟨hrc, hrs, hfr, hlo, hws, hcw⟩, hcode, hini, hy, hlen, hl, hstt⟩ := cw
  have hK : vx_Back l R p e below s args y 3 8 (PreOf R mc ms Pc) (PostOf Qc mc ms free) (vx_Post XC mc ms free) := vx_backW (hh := hh) (bytes := bytes) (maxL := maxL) (ret := ret) hM hp.1 hrc hrs hfr hlo hws hcw (fun a' U hW => word_at hW (Or.inl (by first | rfl | simp [Cond.onTables, Cond.keeps, Cond.steady])) hini)
  obtain ⟨hx, hb, hml, ho, -⟩ := S
  intro T hT X
  rcases vx_callSX X hx (hh := hh) (bytes := bytes) (maxL := maxL) (ret := ret) ho hl hstt hini hcode hy hK hg (hsize.trans hml.symm) (argsL := As) (rest := rest) (fun sig h => hn.trans (hlen sig h)) hstack hW (by rw [hb]; exact hdg)
    (fun vm₁ hW₁ => ⟨hf.1, hf.2, hp.2 (T.setVm vm₁) hT hW₁⟩) with ⟨v, vm₁, ⟨U', l2, c2, s2⟩, hW₁, X', ⟨g', mk, t, L, e1, e2, hq, h1, hL, h2, h3⟩, st⟩ | ⟨q, vm₁, ⟨U', l2, c2, s2⟩, hW₁, X', ⟨g', mk, t, L, E, ce, e1, e2, hq, hce, hcv, hcl, h1, hL, h2, h3⟩, st⟩
  · dsimp only [Pt.U, Pt.locs, Pt.cells, Pt.slots] at X' e1 e2 h1 h2 h3 st
    subst h1; subst h2; subst h3
    exact Or.inl ⟨v, (T.setVm vm₁).calling g' mk As.toArray, t, U', L, hT, X', hL, e1, e2, hq, st⟩
  · dsimp only [Pt.U, Pt.locs, Pt.cells, Pt.slots] at X' e1 e2 h1 h2 h3 st hcl
    subst h1; subst h2; subst h3
    exact Or.inr ⟨q, (T.setVm vm₁).calling g' mk As.toArray, t, U', L, E, ce, hT, X', hL, e1, e2, hq, hce, hcv, vx_cls hW₁ hcl, st⟩
end
end VXH
theorem vx_ofWH {l : Launch} {y : MethodName} {ws ws' : List Cond} {rm : Room} {Pc : Array Value → State → Prop} {Qc : Array Value → State → Outcome → State → Prop} {XC : String → State → State → Prop} {mc ms : Nat} {free : Addr → Prop} {cc : ByteArray} {maxL : Nat} {ret : Option FieldType} {hh : List (Nat × Nat × Nat × Nat)}
    (hy : plainName y.cls = true) (hw : ws = Cond.codeWith y cc maxL ret hh :: ws')
    (body : ∀ p e s m args below meth c s₁, BodyLoose p l y (headSpec ws rm) cc maxL ret e s m args below meth c s₁ → c.maxLocals = maxL → Pc args s →
      W p l e (headSpec ws rm).room s m args below meth c s.heap [] 0 0 (vx_MQ below Qc XC args s mc ms free) (entryFrame m args maxL)) : vx_Met l y ws rm Pc Qc XC mc ms free := by
  refine MetFree.of_bodyS (code := cc) (maxLocals := maxL) (ret := ret) hy ?_ ?_
  · intro args s m h hn
    obtain ⟨m9, meth, c, hn9, h1, h2, h3, h4, -, h5, h6, -⟩ := Cond.codeWith_spec (atoms_spec (ws := ws) h _ (by rw [hw]; exact List.mem_cons_self))
    cases hn.symm.trans hn9
    exact ⟨meth, c, h1, h2, h3, h4, h5, h6⟩
  · intro p e s m args below meth c s₁ B hml hP _
    have hh0 : s₁.heap = s.heap := by rw [B.state]; rfl
    obtain ⟨t, a1, o, b1, b2, b3⟩ := body p e s m args below meth c s₁ B hml hP s₁ hh0 (Stand.of_body B)
    exact ⟨t, o, a1, b1, b2, b3⟩
/-! ===== END ===== -/
end
section
/-! ===== BEGIN printed: names, fields, word lists, decode rows ===== -/
def RX0 : String := "Coldaisle$Hall"
def TX0 : u_T := fun k => match k with
  | 0 => ("Coldaisle$Hall", "temperature", "[I", true)
  | 1 => ("Coldaisle$Hall", "errors", "[I", true)
  | 2 => ("Coldaisle$Hall", "demand", "[I", true)
  | 3 => ("Coldaisle$Hall", "failed", "[Z", true)
  | 4 => ("Coldaisle$Hall", "speed", "[I", true)
  | 5 => ("Coldaisle$Hall", "commands", "[[I", true)
  | _ => ("Coldaisle$Hall", "lastMinute", "I", false)
def tyX0 : Nat → FieldType := fun k => match k with
  | 0 => .array .int
  | 1 => .array .int
  | 2 => .array .int
  | 3 => .array .boolean
  | 4 => .array .int
  | 5 => .array (.array .int)
  | _ => .int
abbrev wsX00 : List Cond := u_ws RX0 TX0 7
theorem nmX0 : ∀ a, a < 7 → ∀ b, b < 7 → a ≠ b → (TX0 a).2.1 ≠ (TX0 b).2.1 := by decide +kernel
theorem tyX0_ok : ∀ k, k < 7 → parseFieldDescriptor (TX0 k).2.2.1 = some (tyX0 k) := by decide +kernel
abbrev cX0_init : ByteArray := prog_2_method_1_code
def yX0_init : MethodName := ⟨RX0, "<init>", "()V"⟩
abbrev cX0_copyFrom : ByteArray := prog_2_method_2_code
def yX0_copyFrom : MethodName := ⟨RX0, "copyFrom", "(LColdaisle$Hall;)V"⟩
abbrev cX0_stopFan : ByteArray := prog_2_method_3_code
def yX0_stopFan : MethodName := ⟨RX0, "stopFan", "(I)V"⟩
abbrev cX0_countRunning : ByteArray := prog_2_method_4_code
def yX0_countRunning : MethodName := ⟨RX0, "countRunning", "()I"⟩
abbrev cX0_commandsAgo : ByteArray := prog_2_method_5_code
def yX0_commandsAgo : MethodName := ⟨RX0, "commandsAgo", "(I)[I"⟩
abbrev cX0_runMinute : ByteArray := prog_2_method_6_code
def yX0_runMinute : MethodName := ⟨RX0, "runMinute", "(LColdaisle$Settings;)V"⟩
abbrev cX0_control : ByteArray := prog_2_method_7_code
def yX0_control : MethodName := ⟨RX0, "control", "(LColdaisle$Settings;I)I"⟩
abbrev cX0_raiseForFailures : ByteArray := prog_2_method_8_code
def yX0_raiseForFailures : MethodName := ⟨RX0, "raiseForFailures", "(LColdaisle$Settings;II)I"⟩
abbrev cX0_commandFans : ByteArray := prog_2_method_9_code
def yX0_commandFans : MethodName := ⟨RX0, "commandFans", "(LColdaisle$Settings;)V"⟩
abbrev cX0_greatestDemand : ByteArray := prog_2_method_10_code
def yX0_greatestDemand : MethodName := ⟨RX0, "greatestDemand", "([I)I"⟩
abbrev cX0_turnFans : ByteArray := prog_2_method_11_code
def yX0_turnFans : MethodName := ⟨RX0, "turnFans", "(LColdaisle$Settings;)V"⟩
abbrev cX0_nextTemperature : ByteArray := prog_2_method_12_code
def yX0_nextTemperature : MethodName := ⟨RX0, "nextTemperature", "(LColdaisle$Settings;I)I"⟩
def RX1 : String := "Coldaisle$Settings"
def TX1 : u_T := fun k => match k with
  | 0 => ("Coldaisle$Settings", "load", "[I", true)
  | 1 => ("Coldaisle$Settings", "setpoint", "[I", true)
  | 2 => ("Coldaisle$Settings", "effect", "[[I", true)
  | 3 => ("Coldaisle$Settings", "proportional", "I", false)
  | 4 => ("Coldaisle$Settings", "integral", "I", false)
  | 5 => ("Coldaisle$Settings", "ambient", "I", false)
  | 6 => ("Coldaisle$Settings", "limit", "I", false)
  | _ => ("Coldaisle$Settings", "delay", "I", false)
def tyX1 : Nat → FieldType := fun k => match k with
  | 0 => .array .int
  | 1 => .array .int
  | 2 => .array (.array .int)
  | 3 => .int
  | 4 => .int
  | 5 => .int
  | 6 => .int
  | _ => .int
abbrev wsX10 : List Cond := u_ws RX1 TX1 8
theorem nmX1 : ∀ a, a < 8 → ∀ b, b < 8 → a ≠ b → (TX1 a).2.1 ≠ (TX1 b).2.1 := by decide +kernel
theorem tyX1_ok : ∀ k, k < 8 → parseFieldDescriptor (TX1 k).2.2.1 = some (tyX1 k) := by decide +kernel
abbrev cX1_init : ByteArray := prog_3_method_1_code
def yX1_init : MethodName := ⟨RX1, "<init>", "()V"⟩
def RX2 : String := "Coldaisle"
def TX2 : u_T := fun k => match k with
  | 0 => ("Coldaisle", "settings", "LColdaisle$Settings;", true)
  | 1 => ("Coldaisle", "hall", "LColdaisle$Hall;", true)
  | 2 => ("Coldaisle", "trial", "LColdaisle$Hall;", true)
  | 3 => ("Coldaisle", "hotMinutes", "[I", true)
  | _ => ("Coldaisle", "clock", "I", false)
def tyX2 : Nat → FieldType := fun k => match k with
  | 0 => .object "Coldaisle$Settings"
  | 1 => .object "Coldaisle$Hall"
  | 2 => .object "Coldaisle$Hall"
  | 3 => .array .int
  | _ => .int
abbrev wsX20 : List Cond := u_ws RX2 TX2 5
theorem nmX2 : ∀ a, a < 5 → ∀ b, b < 5 → a ≠ b → (TX2 a).2.1 ≠ (TX2 b).2.1 := by decide +kernel
theorem tyX2_ok : ∀ k, k < 5 → parseFieldDescriptor (TX2 k).2.2.1 = some (tyX2 k) := by decide +kernel
abbrev cX2_init : ByteArray := prog_1_method_1_code
def yX2_init : MethodName := ⟨RX2, "<init>", "()V"⟩
abbrev cX2_setLoad : ByteArray := prog_1_method_2_code
def yX2_setLoad : MethodName := ⟨RX2, "setLoad", "(II)I"⟩
abbrev cX2_setSetpoint : ByteArray := prog_1_method_3_code
def yX2_setSetpoint : MethodName := ⟨RX2, "setSetpoint", "(II)I"⟩
abbrev cX2_setEffect : ByteArray := prog_1_method_4_code
def yX2_setEffect : MethodName := ⟨RX2, "setEffect", "(III)I"⟩
abbrev cX2_setGains : ByteArray := prog_1_method_5_code
def yX2_setGains : MethodName := ⟨RX2, "setGains", "(II)V"⟩
abbrev cX2_setHall : ByteArray := prog_1_method_6_code
def yX2_setHall : MethodName := ⟨RX2, "setHall", "(II)V"⟩
abbrev cX2_setDelay : ByteArray := prog_1_method_7_code
def yX2_setDelay : MethodName := ⟨RX2, "setDelay", "(I)I"⟩
abbrev cX2_fail : ByteArray := prog_1_method_8_code
def yX2_fail : MethodName := ⟨RX2, "fail", "(I)I"⟩
abbrev cX2_repair : ByteArray := prog_1_method_9_code
def yX2_repair : MethodName := ⟨RX2, "repair", "(I)I"⟩
abbrev cX2_command : ByteArray := prog_1_method_10_code
def yX2_command : MethodName := ⟨RX2, "command", "(I)I"⟩
abbrev cX2_speed : ByteArray := prog_1_method_11_code
def yX2_speed : MethodName := ⟨RX2, "speed", "(I)I"⟩
abbrev cX2_pass : ByteArray := prog_1_method_12_code
def yX2_pass : MethodName := ⟨RX2, "pass", "(I)I"⟩
abbrev cX2_clock : ByteArray := prog_1_method_13_code
def yX2_clock : MethodName := ⟨RX2, "clock", "()I"⟩
abbrev cX2_temperature : ByteArray := prog_1_method_14_code
def yX2_temperature : MethodName := ⟨RX2, "temperature", "(I)I"⟩
abbrev cX2_demand : ByteArray := prog_1_method_15_code
def yX2_demand : MethodName := ⟨RX2, "demand", "(I)I"⟩
abbrev cX2_errors : ByteArray := prog_1_method_16_code
def yX2_errors : MethodName := ⟨RX2, "errors", "(I)I"⟩
abbrev cX2_hotMinutes : ByteArray := prog_1_method_17_code
def yX2_hotMinutes : MethodName := ⟨RX2, "hotMinutes", "(I)I"⟩
abbrev cX2_hottest : ByteArray := prog_1_method_18_code
def yX2_hottest : MethodName := ⟨RX2, "hottest", "()I"⟩
abbrev cX2_expected : ByteArray := prog_1_method_19_code
def yX2_expected : MethodName := ⟨RX2, "expected", "(II)I"⟩
abbrev cX2_critical : ByteArray := prog_1_method_20_code
def yX2_critical : MethodName := ⟨RX2, "critical", "(II)I"⟩
abbrev cX2_margin : ByteArray := prog_1_method_21_code
def yX2_margin : MethodName := ⟨RX2, "margin", "(II)I"⟩
abbrev cX2_criticalFan : ByteArray := prog_1_method_22_code
def yX2_criticalFan : MethodName := ⟨RX2, "criticalFan", "(II)I"⟩
abbrev cX2_greatestTemperature : ByteArray := prog_1_method_23_code
def yX2_greatestTemperature : MethodName := ⟨RX2, "greatestTemperature", "(III)I"⟩
abbrev cX2_noteHotZones : ByteArray := prog_1_method_24_code
def yX2_noteHotZones : MethodName := ⟨RX2, "noteHotZones", "()I"⟩
abbrev cX2_requireForecast : ByteArray := prog_1_method_25_code
def yX2_requireForecast : MethodName := ⟨RX2, "requireForecast", "(II)V"⟩
abbrev cX2_requireZone : ByteArray := prog_1_method_26_code
def yX2_requireZone : MethodName := ⟨RX2, "requireZone", "(I)V"⟩
abbrev cX2_requireFan : ByteArray := prog_1_method_27_code
def yX2_requireFan : MethodName := ⟨RX2, "requireFan", "(I)V"⟩
abbrev cX2_requireWithin : ByteArray := prog_1_method_28_code
def yX2_requireWithin : MethodName := ⟨RX2, "requireWithin", "(III)V"⟩
abbrev cX2_holdWithin : ByteArray := prog_1_method_29_code
def yX2_holdWithin : MethodName := ⟨RX2, "holdWithin", "(III)I"⟩
def RX3 : String := "ColdaisleModel"
def TX3 : u_T := fun k => match k with
  | 0 => ("ColdaisleModel", "loads", "[I", true)
  | 1 => ("ColdaisleModel", "setpoints", "[I", true)
  | 2 => ("ColdaisleModel", "effects", "[I", true)
  | 3 => ("ColdaisleModel", "proportional", "I", false)
  | 4 => ("ColdaisleModel", "integral", "I", false)
  | 5 => ("ColdaisleModel", "ambient", "I", false)
  | 6 => ("ColdaisleModel", "limit", "I", false)
  | 7 => ("ColdaisleModel", "delay", "I", false)
  | 8 => ("ColdaisleModel", "clocks", "[I", true)
  | 9 => ("ColdaisleModel", "temperatures", "[I", true)
  | 10 => ("ColdaisleModel", "sums", "[I", true)
  | 11 => ("ColdaisleModel", "demands", "[I", true)
  | 12 => ("ColdaisleModel", "hasFailed", "[Z", true)
  | 13 => ("ColdaisleModel", "speeds", "[I", true)
  | 14 => ("ColdaisleModel", "commands", "[I", true)
  | 15 => ("ColdaisleModel", "hots", "[I", true)
  | _ => ("ColdaisleModel", "thrown", "I", false)
def tyX3 : Nat → FieldType := fun k => match k with
  | 0 => .array .int
  | 1 => .array .int
  | 2 => .array .int
  | 3 => .int
  | 4 => .int
  | 5 => .int
  | 6 => .int
  | 7 => .int
  | 8 => .array .int
  | 9 => .array .int
  | 10 => .array .int
  | 11 => .array .int
  | 12 => .array .boolean
  | 13 => .array .int
  | 14 => .array .int
  | 15 => .array .int
  | _ => .int
abbrev wsX30 : List Cond := u_ws RX3 TX3 17
theorem nmX3 : ∀ a, a < 17 → ∀ b, b < 17 → a ≠ b → (TX3 a).2.1 ≠ (TX3 b).2.1 := by decide +kernel
theorem tyX3_ok : ∀ k, k < 17 → parseFieldDescriptor (TX3 k).2.2.1 = some (tyX3 k) := by decide +kernel
abbrev cX3_init : ByteArray := prog_5_method_1_code
def yX3_init : MethodName := ⟨RX3, "<init>", "()V"⟩
abbrev cX3_thrown : ByteArray := prog_5_method_2_code
def yX3_thrown : MethodName := ⟨RX3, "thrown", "()I"⟩
abbrev cX3_goes : ByteArray := prog_5_method_3_code
def yX3_goes : MethodName := ⟨RX3, "goes", "(I)Z"⟩
abbrev cX3_isIn : ByteArray := prog_5_method_4_code
def yX3_isIn : MethodName := ⟨RX3, "isIn", "(III)Z"⟩
abbrev cX3_isZone : ByteArray := prog_5_method_5_code
def yX3_isZone : MethodName := ⟨RX3, "isZone", "(I)Z"⟩
abbrev cX3_isFan : ByteArray := prog_5_method_6_code
def yX3_isFan : MethodName := ⟨RX3, "isFan", "(I)Z"⟩
abbrev cX3_part : ByteArray := prog_5_method_7_code
def yX3_part : MethodName := ⟨RX3, "part", "(II)I"⟩
abbrev cX3_held : ByteArray := prog_5_method_8_code
def yX3_held : MethodName := ⟨RX3, "held", "(III)I"⟩
abbrev cX3_setLoad : ByteArray := prog_5_method_9_code
def yX3_setLoad : MethodName := ⟨RX3, "setLoad", "(II)I"⟩
abbrev cX3_setSetpoint : ByteArray := prog_5_method_10_code
def yX3_setSetpoint : MethodName := ⟨RX3, "setSetpoint", "(II)I"⟩
abbrev cX3_setEffect : ByteArray := prog_5_method_11_code
def yX3_setEffect : MethodName := ⟨RX3, "setEffect", "(III)I"⟩
abbrev cX3_setGains : ByteArray := prog_5_method_12_code
def yX3_setGains : MethodName := ⟨RX3, "setGains", "(II)V"⟩
abbrev cX3_setHall : ByteArray := prog_5_method_13_code
def yX3_setHall : MethodName := ⟨RX3, "setHall", "(II)V"⟩
abbrev cX3_setDelay : ByteArray := prog_5_method_14_code
def yX3_setDelay : MethodName := ⟨RX3, "setDelay", "(I)I"⟩
abbrev cX3_running : ByteArray := prog_5_method_15_code
def yX3_running : MethodName := ⟨RX3, "running", "()I"⟩
abbrev cX3_fail : ByteArray := prog_5_method_16_code
def yX3_fail : MethodName := ⟨RX3, "fail", "(I)I"⟩
abbrev cX3_repair : ByteArray := prog_5_method_17_code
def yX3_repair : MethodName := ⟨RX3, "repair", "(I)I"⟩
abbrev cX3_commandAt : ByteArray := prog_5_method_18_code
def yX3_commandAt : MethodName := ⟨RX3, "commandAt", "(III)I"⟩
abbrev cX3_command : ByteArray := prog_5_method_19_code
def yX3_command : MethodName := ⟨RX3, "command", "(I)I"⟩
abbrev cX3_speed : ByteArray := prog_5_method_20_code
def yX3_speed : MethodName := ⟨RX3, "speed", "(I)I"⟩
abbrev cX3_demands : ByteArray := prog_5_method_21_code
def yX3_demands : MethodName := ⟨RX3, "demands", "(II)V"⟩
abbrev cX3_commands : ByteArray := prog_5_method_22_code
def yX3_commands : MethodName := ⟨RX3, "commands", "(II)V"⟩
abbrev cX3_speeds : ByteArray := prog_5_method_23_code
def yX3_speeds : MethodName := ⟨RX3, "speeds", "(II)V"⟩
abbrev cX3_heats : ByteArray := prog_5_method_24_code
def yX3_heats : MethodName := ⟨RX3, "heats", "(II)V"⟩
abbrev cX3_minute : ByteArray := prog_5_method_25_code
def yX3_minute : MethodName := ⟨RX3, "minute", "(I)V"⟩
abbrev cX3_pass : ByteArray := prog_5_method_26_code
def yX3_pass : MethodName := ⟨RX3, "pass", "(I)I"⟩
abbrev cX3_clock : ByteArray := prog_5_method_27_code
def yX3_clock : MethodName := ⟨RX3, "clock", "()I"⟩
abbrev cX3_asks : ByteArray := prog_5_method_28_code
def yX3_asks : MethodName := ⟨RX3, "asks", "(I)Z"⟩
abbrev cX3_temperature : ByteArray := prog_5_method_29_code
def yX3_temperature : MethodName := ⟨RX3, "temperature", "(I)I"⟩
abbrev cX3_demand : ByteArray := prog_5_method_30_code
def yX3_demand : MethodName := ⟨RX3, "demand", "(I)I"⟩
abbrev cX3_errors : ByteArray := prog_5_method_31_code
def yX3_errors : MethodName := ⟨RX3, "errors", "(I)I"⟩
abbrev cX3_hotMinutes : ByteArray := prog_5_method_32_code
def yX3_hotMinutes : MethodName := ⟨RX3, "hotMinutes", "(I)I"⟩
abbrev cX3_hottest : ByteArray := prog_5_method_33_code
def yX3_hottest : MethodName := ⟨RX3, "hottest", "()I"⟩
abbrev cX3_copies : ByteArray := prog_5_method_34_code
def yX3_copies : MethodName := ⟨RX3, "copies", "()V"⟩
abbrev cX3_greatest : ByteArray := prog_5_method_35_code
def yX3_greatest : MethodName := ⟨RX3, "greatest", "(III)I"⟩
abbrev cX3_asksIf : ByteArray := prog_5_method_36_code
def yX3_asksIf : MethodName := ⟨RX3, "asksIf", "(II)Z"⟩
abbrev cX3_expected : ByteArray := prog_5_method_37_code
def yX3_expected : MethodName := ⟨RX3, "expected", "(II)I"⟩
abbrev cX3_worst : ByteArray := prog_5_method_38_code
def yX3_worst : MethodName := ⟨RX3, "worst", "(II)I"⟩
abbrev cX3_critical : ByteArray := prog_5_method_39_code
def yX3_critical : MethodName := ⟨RX3, "critical", "(II)I"⟩
abbrev cX3_margin : ByteArray := prog_5_method_40_code
def yX3_margin : MethodName := ⟨RX3, "margin", "(II)I"⟩
def RJ9 : String := "java/lang/Math"
def TJ9 : u_T := fun k => match k with
  | _ => ("", "", "", false)
def tyJ9 : Nat → FieldType := fun k => match k with
  | _ => .int
abbrev wsJ90 : List Cond := u_ws RJ9 TJ9 0
theorem nmJ9 : ∀ a, a < 0 → ∀ b, b < 0 → a ≠ b → (TJ9 a).2.1 ≠ (TJ9 b).2.1 := by decide +kernel
theorem tyJ9_ok : ∀ k, k < 0 → parseFieldDescriptor (TJ9 k).2.2.1 = some (tyJ9 k) := by decide +kernel
abbrev cJ9_floorDiv_7cf53 : ByteArray := prog_9_method_47_code
def yJ9_floorDiv_7cf53 : MethodName := ⟨RJ9, "floorDiv", "(II)I"⟩
abbrev cJ9_floorMod_7cf53 : ByteArray := prog_9_method_50_code
def yJ9_floorMod_7cf53 : MethodName := ⟨RJ9, "floorMod", "(II)I"⟩
abbrev cJ9_max_7cf53 : ByteArray := prog_9_method_65_code
def yJ9_max_7cf53 : MethodName := ⟨RJ9, "max", "(II)I"⟩
abbrev cJ9_min_7cf53 : ByteArray := prog_9_method_69_code
def yJ9_min_7cf53 : MethodName := ⟨RJ9, "min", "(II)I"⟩
def RJ0 : String := "java/lang/String"
def TJ0 : u_T := fun k => match k with
  | _ => ("", "", "", false)
def tyJ0 : Nat → FieldType := fun k => match k with
  | _ => .int
abbrev wsJ00 : List Cond := u_ws RJ0 TJ0 0
theorem nmJ0 : ∀ a, a < 0 → ∀ b, b < 0 → a ≠ b → (TJ0 a).2.1 ≠ (TJ0 b).2.1 := by decide +kernel
theorem tyJ0_ok : ∀ k, k < 0 → parseFieldDescriptor (TJ0 k).2.2.1 = some (tyJ0 k) := by decide +kernel
def RJ10 : String := "java/lang/System"
def TJ10 : u_T := fun k => match k with
  | _ => ("", "", "", false)
def tyJ10 : Nat → FieldType := fun k => match k with
  | _ => .int
abbrev wsJ100 : List Cond := u_ws RJ10 TJ10 0
theorem nmJ10 : ∀ a, a < 0 → ∀ b, b < 0 → a ≠ b → (TJ10 a).2.1 ≠ (TJ10 b).2.1 := by decide +kernel
theorem tyJ10_ok : ∀ k, k < 0 → parseFieldDescriptor (TJ10 k).2.2.1 = some (tyJ10 k) := by decide +kernel
def RL : String := "ColdaisleLaw"
abbrev cL_setLoad : ByteArray := method_3_code
def yL_setLoad : MethodName := ⟨RL, "setLoad", "(LColdaisle;II[J)I"⟩
abbrev cL_setSetpoint : ByteArray := method_4_code
def yL_setSetpoint : MethodName := ⟨RL, "setSetpoint", "(LColdaisle;II[J)I"⟩
abbrev cL_setEffect : ByteArray := method_5_code
def yL_setEffect : MethodName := ⟨RL, "setEffect", "(LColdaisle;III[J)I"⟩
abbrev cL_setGains : ByteArray := method_6_code
def yL_setGains : MethodName := ⟨RL, "setGains", "(LColdaisle;II)I"⟩
abbrev cL_setHall : ByteArray := method_7_code
def yL_setHall : MethodName := ⟨RL, "setHall", "(LColdaisle;II)I"⟩
abbrev cL_setDelay : ByteArray := method_8_code
def yL_setDelay : MethodName := ⟨RL, "setDelay", "(LColdaisle;I[J)I"⟩
abbrev cL_fail : ByteArray := method_9_code
def yL_fail : MethodName := ⟨RL, "fail", "(LColdaisle;I[J)I"⟩
abbrev cL_repair : ByteArray := method_10_code
def yL_repair : MethodName := ⟨RL, "repair", "(LColdaisle;I[J)I"⟩
abbrev cL_command : ByteArray := method_11_code
def yL_command : MethodName := ⟨RL, "command", "(LColdaisle;I[J)I"⟩
abbrev cL_speed : ByteArray := method_12_code
def yL_speed : MethodName := ⟨RL, "speed", "(LColdaisle;I[J)I"⟩
abbrev cL_pass : ByteArray := method_13_code
def yL_pass : MethodName := ⟨RL, "pass", "(LColdaisle;I[J)I"⟩
abbrev cL_temperature : ByteArray := method_14_code
def yL_temperature : MethodName := ⟨RL, "temperature", "(LColdaisle;I[J)I"⟩
abbrev cL_demand : ByteArray := method_15_code
def yL_demand : MethodName := ⟨RL, "demand", "(LColdaisle;I[J)I"⟩
abbrev cL_errors : ByteArray := method_16_code
def yL_errors : MethodName := ⟨RL, "errors", "(LColdaisle;I[J)I"⟩
abbrev cL_hotMinutes : ByteArray := method_17_code
def yL_hotMinutes : MethodName := ⟨RL, "hotMinutes", "(LColdaisle;I[J)I"⟩
abbrev cL_expected : ByteArray := method_18_code
def yL_expected : MethodName := ⟨RL, "expected", "(LColdaisle;II[J)I"⟩
abbrev cL_critical : ByteArray := method_19_code
def yL_critical : MethodName := ⟨RL, "critical", "(LColdaisle;II[J)I"⟩
abbrev cL_margin : ByteArray := method_20_code
def yL_margin : MethodName := ⟨RL, "margin", "(LColdaisle;II[J)I"⟩
abbrev cL_law : ByteArray := code
def yL_law : MethodName := ⟨RL, "law", "([I)Z"⟩
def wsX0_init : List Cond := .code yX0_init cX0_init 2 none :: ([.methodLink RX0 3 objectInit, .instanceMethod objectInit, .code objectInit ⟨#[0xb1]⟩ 1 none, .arrayClass .int, .fieldLink RX0 9 "Coldaisle$Hall" "temperature" "[I", .fieldLink RX0 15 "Coldaisle$Hall" "errors" "[I", .fieldLink RX0 18 "Coldaisle$Hall" "demand" "[I", .arrayClass .boolean, .fieldLink RX0 21 "Coldaisle$Hall" "failed" "[Z", .fieldLink RX0 25 "Coldaisle$Hall" "speed" "[I", .classLink RX0 28 "[[I", .fieldLink RX0 30 "Coldaisle$Hall" "commands" "[[I", .fieldLink RX0 33 "Coldaisle$Hall" "lastMinute" "I"] ++ wsX00)
def wsX0_copyFrom : List Cond := .code yX0_copyFrom cX0_copyFrom 3 none :: ([.fieldLink RX0 9 "Coldaisle$Hall" "temperature" "[I", .methodLink RX0 37 arraycopyName, .native arraycopyName, .static arraycopyName, .initialized "java/lang/System", .fieldLink RX0 15 "Coldaisle$Hall" "errors" "[I", .fieldLink RX0 18 "Coldaisle$Hall" "demand" "[I", .fieldLink RX0 25 "Coldaisle$Hall" "speed" "[I", .fieldLink RX0 21 "Coldaisle$Hall" "failed" "[Z", .fieldLink RX0 30 "Coldaisle$Hall" "commands" "[[I", .fieldLink RX0 33 "Coldaisle$Hall" "lastMinute" "I"] ++ wsX00)
def wsX0_stopFan : List Cond := .code yX0_stopFan cX0_stopFan 2 none :: ([.fieldLink RX0 21 "Coldaisle$Hall" "failed" "[Z", .fieldLink RX0 25 "Coldaisle$Hall" "speed" "[I"] ++ wsX00)
def wsX0_countRunning : List Cond := .code yX0_countRunning cX0_countRunning 3 (some .int) :: ([.fieldLink RX0 21 "Coldaisle$Hall" "failed" "[Z"] ++ wsX00)
def wsJ9_floorMod_7cf53 : List Cond := .code yJ9_floorMod_7cf53 cJ9_floorMod_7cf53 3 (some .int) :: ([])
def wsX0_commandsAgo : List Cond := .code yX0_commandsAgo cX0_commandsAgo 2 (some (.array .int)) :: ([.fieldLink RX0 30 "Coldaisle$Hall" "commands" "[[I", .fieldLink RX0 33 "Coldaisle$Hall" "lastMinute" "I", .methodLink RX0 43 yJ9_floorMod_7cf53, .static yJ9_floorMod_7cf53, .initialized RJ9, .code yJ9_floorMod_7cf53 cJ9_floorMod_7cf53 3 (some .int)] ++ wsX00)
def wsX2_holdWithin : List Cond := .code yX2_holdWithin cX2_holdWithin 3 (some .int) :: ([.methodLink RX2 142 Lib.Math.min.name, .static Lib.Math.min.name, .initialized "java/lang/Math", .code Lib.Math.min.name Lib.Math.min.code 2 (some .int), .methodLink RX2 132 Lib.Math.max.name, .static Lib.Math.max.name, .code Lib.Math.max.name Lib.Math.max.code 2 (some .int)])
def wsJ9_floorDiv_7cf53 : List Cond := .code yJ9_floorDiv_7cf53 cJ9_floorDiv_7cf53 3 (some .int) :: ([])
def wsX0_control : List Cond := .code yX0_control cX0_control 7 (some .int) :: ([.fieldLink RX0 9 "Coldaisle$Hall" "temperature" "[I", .fieldLink RX0 67 "Coldaisle$Settings" "setpoint" "[I", .fieldLink RX0 15 "Coldaisle$Hall" "errors" "[I", .fieldLink RX0 76 "Coldaisle$Settings" "integral" "I", .fieldLink RX0 82 "Coldaisle$Settings" "proportional" "I", .static yX2_holdWithin, .initialized RX2, .code yX2_holdWithin cX2_holdWithin 3 (some .int), .methodLink RX2 142 Lib.Math.min.name, .static Lib.Math.min.name, .initialized "java/lang/Math", .code Lib.Math.min.name Lib.Math.min.code 2 (some .int), .methodLink RX2 132 Lib.Math.max.name, .static Lib.Math.max.name, .code Lib.Math.max.name Lib.Math.max.code 2 (some .int), .methodLink RX0 79 yJ9_floorDiv_7cf53, .static yJ9_floorDiv_7cf53, .initialized RJ9, .code yJ9_floorDiv_7cf53 cJ9_floorDiv_7cf53 3 (some .int)] ++ wsX00 ++ wsX10)
def wsX0_raiseForFailures : List Cond := .code yX0_raiseForFailures cX0_raiseForFailures 8 (some .int) :: ([.fieldLink RX0 85 "Coldaisle$Settings" "effect" "[[I", .fieldLink RX0 21 "Coldaisle$Hall" "failed" "[Z", .methodLink RX0 88 Lib.Math.min.name, .static Lib.Math.min.name, .initialized "java/lang/Math", .code Lib.Math.min.name Lib.Math.min.code 2 (some .int), .methodLink RX0 79 yJ9_floorDiv_7cf53, .static yJ9_floorDiv_7cf53, .initialized RJ9, .code yJ9_floorDiv_7cf53 cJ9_floorDiv_7cf53 3 (some .int)] ++ wsX10 ++ wsX00)
def wsX0_greatestDemand : List Cond := .code yX0_greatestDemand cX0_greatestDemand 4 (some .int) :: ([.fieldLink RX0 18 "Coldaisle$Hall" "demand" "[I", .methodLink RX0 99 Lib.Math.max.name, .static Lib.Math.max.name, .initialized "java/lang/Math", .code Lib.Math.max.name Lib.Math.max.code 2 (some .int)] ++ wsX00)
def wsX0_commandFans : List Cond := .code yX0_commandFans cX0_commandFans 4 none :: ([.fieldLink RX0 33 "Coldaisle$Hall" "lastMinute" "I", .fieldLink RX0 85 "Coldaisle$Settings" "effect" "[[I", .methodLink RX0 43 yJ9_floorMod_7cf53, .static yJ9_floorMod_7cf53, .initialized RJ9, .code yJ9_floorMod_7cf53 cJ9_floorMod_7cf53 3 (some .int), .methodLink RX0 91 yX0_commandsAgo, .instanceMethod yX0_commandsAgo, .selects RX0 yX0_commandsAgo yX0_commandsAgo, .initialized RX0, .code yX0_commandsAgo cX0_commandsAgo 2 (some (.array .int)), .fieldLink RX0 30 "Coldaisle$Hall" "commands" "[[I", .methodLink RX0 95 yX0_greatestDemand, .instanceMethod yX0_greatestDemand, .selects RX0 yX0_greatestDemand yX0_greatestDemand, .code yX0_greatestDemand cX0_greatestDemand 4 (some .int), .fieldLink RX0 18 "Coldaisle$Hall" "demand" "[I", .methodLink RX0 99 Lib.Math.max.name, .static Lib.Math.max.name, .initialized "java/lang/Math", .code Lib.Math.max.name Lib.Math.max.code 2 (some .int)] ++ wsX00 ++ wsX10)
def wsX0_turnFans : List Cond := .code yX0_turnFans cX0_turnFans 4 none :: ([.fieldLink RX0 102 "Coldaisle$Settings" "delay" "I", .fieldLink RX0 25 "Coldaisle$Hall" "speed" "[I", .fieldLink RX0 21 "Coldaisle$Hall" "failed" "[Z", .methodLink RX0 91 yX0_commandsAgo, .instanceMethod yX0_commandsAgo, .selects RX0 yX0_commandsAgo yX0_commandsAgo, .initialized RX0, .code yX0_commandsAgo cX0_commandsAgo 2 (some (.array .int)), .fieldLink RX0 30 "Coldaisle$Hall" "commands" "[[I", .fieldLink RX0 33 "Coldaisle$Hall" "lastMinute" "I", .methodLink RX0 43 yJ9_floorMod_7cf53, .static yJ9_floorMod_7cf53, .initialized RJ9, .code yJ9_floorMod_7cf53 cJ9_floorMod_7cf53 3 (some .int)] ++ wsX10 ++ wsX00)
def wsX0_nextTemperature : List Cond := .code yX0_nextTemperature cX0_nextTemperature 6 (some .int) :: ([.fieldLink RX0 85 "Coldaisle$Settings" "effect" "[[I", .fieldLink RX0 25 "Coldaisle$Hall" "speed" "[I", .fieldLink RX0 9 "Coldaisle$Hall" "temperature" "[I", .fieldLink RX0 105 "Coldaisle$Settings" "ambient" "I", .fieldLink RX0 108 "Coldaisle$Settings" "load" "[I", .methodLink RX0 79 yJ9_floorDiv_7cf53, .static yJ9_floorDiv_7cf53, .initialized RJ9, .code yJ9_floorDiv_7cf53 cJ9_floorDiv_7cf53 3 (some .int)] ++ wsX10 ++ wsX00)
def wsX0_runMinute_r1 : List Cond := [Cond.fieldLink RX0 18 "Coldaisle$Hall" "demand" "[I", Cond.fieldLink RX0 9 "Coldaisle$Hall" "temperature" "[I", Cond.methodLink RX0 49 yX0_control, Cond.instanceMethod yX0_control, Cond.selects RX0 yX0_control yX0_control, Cond.initialized RX0, Cond.code yX0_control cX0_control 7 (some .int), Cond.fieldLink RX0 67 "Coldaisle$Settings" "setpoint" "[I", Cond.fieldLink RX0 15 "Coldaisle$Hall" "errors" "[I", Cond.fieldLink RX0 76 "Coldaisle$Settings" "integral" "I", Cond.fieldLink RX0 82 "Coldaisle$Settings" "proportional" "I", Cond.static yX2_holdWithin, Cond.initialized RX2, Cond.code yX2_holdWithin cX2_holdWithin 3 (some .int), Cond.methodLink RX2 142 Lib.Math.min.name, Cond.static Lib.Math.min.name, Cond.initialized "java/lang/Math", Cond.code Lib.Math.min.name Lib.Math.min.code 2 (some .int), Cond.methodLink RX2 132 Lib.Math.max.name, Cond.static Lib.Math.max.name, Cond.code Lib.Math.max.name Lib.Math.max.code 2 (some .int), Cond.methodLink RX0 79 yJ9_floorDiv_7cf53, Cond.static yJ9_floorDiv_7cf53, Cond.initialized RJ9]
def wsX0_runMinute_r2 : List Cond := [Cond.code yJ9_floorDiv_7cf53 cJ9_floorDiv_7cf53 3 (some .int), Cond.methodLink RX0 53 yX0_raiseForFailures, Cond.instanceMethod yX0_raiseForFailures, Cond.selects RX0 yX0_raiseForFailures yX0_raiseForFailures, Cond.code yX0_raiseForFailures cX0_raiseForFailures 8 (some .int), Cond.fieldLink RX0 85 "Coldaisle$Settings" "effect" "[[I", Cond.fieldLink RX0 21 "Coldaisle$Hall" "failed" "[Z", Cond.methodLink RX0 88 Lib.Math.min.name, Cond.methodLink RX0 57 yX0_commandFans, Cond.instanceMethod yX0_commandFans, Cond.selects RX0 yX0_commandFans yX0_commandFans, Cond.code yX0_commandFans cX0_commandFans 4 none, Cond.fieldLink RX0 33 "Coldaisle$Hall" "lastMinute" "I", Cond.methodLink RX0 43 yJ9_floorMod_7cf53, Cond.static yJ9_floorMod_7cf53, Cond.code yJ9_floorMod_7cf53 cJ9_floorMod_7cf53 3 (some .int), Cond.methodLink RX0 91 yX0_commandsAgo, Cond.instanceMethod yX0_commandsAgo, Cond.selects RX0 yX0_commandsAgo yX0_commandsAgo, Cond.code yX0_commandsAgo cX0_commandsAgo 2 (some (.array .int)), Cond.fieldLink RX0 30 "Coldaisle$Hall" "commands" "[[I", Cond.methodLink RX0 95 yX0_greatestDemand, Cond.instanceMethod yX0_greatestDemand, Cond.selects RX0 yX0_greatestDemand yX0_greatestDemand]
def wsX0_runMinute_r3 : List Cond := [Cond.code yX0_greatestDemand cX0_greatestDemand 4 (some .int), Cond.methodLink RX0 99 Lib.Math.max.name, Cond.methodLink RX0 61 yX0_turnFans, Cond.instanceMethod yX0_turnFans, Cond.selects RX0 yX0_turnFans yX0_turnFans, Cond.code yX0_turnFans cX0_turnFans 4 none, Cond.fieldLink RX0 102 "Coldaisle$Settings" "delay" "I", Cond.fieldLink RX0 25 "Coldaisle$Hall" "speed" "[I", Cond.methodLink RX0 64 yX0_nextTemperature, Cond.instanceMethod yX0_nextTemperature, Cond.selects RX0 yX0_nextTemperature yX0_nextTemperature, Cond.code yX0_nextTemperature cX0_nextTemperature 6 (some .int), Cond.fieldLink RX0 105 "Coldaisle$Settings" "ambient" "I", Cond.fieldLink RX0 108 "Coldaisle$Settings" "load" "[I"]
def wsX0_runMinute : List Cond := .code yX0_runMinute cX0_runMinute 4 none :: ((wsX0_runMinute_r1 ++ (wsX0_runMinute_r2 ++ wsX0_runMinute_r3)) ++ wsX00 ++ wsX10)
def wsX1_init : List Cond := .code yX1_init cX1_init 3 none :: ([.methodLink RX1 3 objectInit, .instanceMethod objectInit, .code objectInit ⟨#[0xb1]⟩ 1 none, .arrayClass .int, .fieldLink RX1 9 "Coldaisle$Settings" "load" "[I", .fieldLink RX1 15 "Coldaisle$Settings" "setpoint" "[I", .classLink RX1 18 "[[I", .fieldLink RX1 20 "Coldaisle$Settings" "effect" "[[I", .fieldLink RX1 23 "Coldaisle$Settings" "proportional" "I", .fieldLink RX1 27 "Coldaisle$Settings" "integral" "I", .fieldLink RX1 30 "Coldaisle$Settings" "ambient" "I", .fieldLink RX1 33 "Coldaisle$Settings" "limit" "I", .fieldLink RX1 36 "Coldaisle$Settings" "delay" "I"] ++ wsX10)
def wsX2_init_r1 : List Cond := [Cond.methodLink RX2 1 objectInit, Cond.instanceMethod objectInit, Cond.code objectInit ⟨#[0xb1]⟩ 1 none, Cond.classLink RX2 7 RX1, Cond.instantiable RX1 8, Cond.initialized RX1, Cond.fieldLink RX2 10 "Coldaisle" "settings" "LColdaisle$Settings;", Cond.classLink RX2 16 RX0, Cond.instantiable RX0 7, Cond.initialized RX0, Cond.fieldLink RX2 19 "Coldaisle" "hall" "LColdaisle$Hall;", Cond.fieldLink RX2 23 "Coldaisle" "trial" "LColdaisle$Hall;", Cond.arrayClass .int, Cond.fieldLink RX2 26 "Coldaisle" "hotMinutes" "[I", Cond.fieldLink RX2 30 "Coldaisle" "clock" "I", Cond.methodLink RX2 9 yX1_init, Cond.instanceMethod yX1_init, Cond.code yX1_init cX1_init 3 none, Cond.methodLink RX1 3 objectInit, Cond.fieldLink RX1 9 "Coldaisle$Settings" "load" "[I", Cond.fieldLink RX1 15 "Coldaisle$Settings" "setpoint" "[I", Cond.classLink RX1 18 "[[I", Cond.fieldLink RX1 20 "Coldaisle$Settings" "effect" "[[I", Cond.fieldLink RX1 23 "Coldaisle$Settings" "proportional" "I"]
def wsX2_init_r2 : List Cond := [Cond.fieldLink RX1 27 "Coldaisle$Settings" "integral" "I", Cond.fieldLink RX1 30 "Coldaisle$Settings" "ambient" "I", Cond.fieldLink RX1 33 "Coldaisle$Settings" "limit" "I", Cond.fieldLink RX1 36 "Coldaisle$Settings" "delay" "I", Cond.methodLink RX2 18 yX0_init, Cond.instanceMethod yX0_init, Cond.code yX0_init cX0_init 2 none, Cond.methodLink RX0 3 objectInit, Cond.fieldLink RX0 9 "Coldaisle$Hall" "temperature" "[I", Cond.fieldLink RX0 15 "Coldaisle$Hall" "errors" "[I", Cond.fieldLink RX0 18 "Coldaisle$Hall" "demand" "[I", Cond.arrayClass .boolean, Cond.fieldLink RX0 21 "Coldaisle$Hall" "failed" "[Z", Cond.fieldLink RX0 25 "Coldaisle$Hall" "speed" "[I", Cond.classLink RX0 28 "[[I", Cond.fieldLink RX0 30 "Coldaisle$Hall" "commands" "[[I", Cond.fieldLink RX0 33 "Coldaisle$Hall" "lastMinute" "I"]
def wsX2_init : List Cond := .code yX2_init cX2_init 1 none :: ((wsX2_init_r1 ++ wsX2_init_r2) ++ wsX10 ++ wsX20 ++ wsX00)
def wsX2_requireWithin : List Cond := .code yX2_requireWithin cX2_requireWithin 3 none :: ([.classLink RX2 137 "java/lang/IllegalArgumentException", .initialized "java/lang/IllegalArgumentException"] ++ (vx_atS RX2 141 "java/lang/IllegalArgumentException" ["java/lang/RuntimeException", "java/lang/Exception"]).filter goodWord)
def wsX2_requireZone : List Cond := .code yX2_requireZone cX2_requireZone 1 none :: ([.methodLink RX2 38 yX2_requireWithin, .static yX2_requireWithin, .initialized RX2, .code yX2_requireWithin cX2_requireWithin 3 none, .classLink RX2 137 "java/lang/IllegalArgumentException", .initialized "java/lang/IllegalArgumentException"] ++ (vx_atS RX2 141 "java/lang/IllegalArgumentException" ["java/lang/RuntimeException", "java/lang/Exception"]).filter goodWord)
def wsX2_setLoad : List Cond := .code yX2_setLoad cX2_setLoad 4 (some .int) :: ([.fieldLink RX2 10 "Coldaisle" "settings" "LColdaisle$Settings;", .fieldLink RX2 42 "Coldaisle$Settings" "load" "[I", .methodLink RX2 34 yX2_requireZone, .static yX2_requireZone, .initialized RX2, .code yX2_requireZone cX2_requireZone 1 none, .methodLink RX2 38 yX2_requireWithin, .static yX2_requireWithin, .code yX2_requireWithin cX2_requireWithin 3 none, .classLink RX2 137 "java/lang/IllegalArgumentException", .initialized "java/lang/IllegalArgumentException"] ++ wsX20 ++ wsX10 ++ (vx_atS RX2 141 "java/lang/IllegalArgumentException" ["java/lang/RuntimeException", "java/lang/Exception"]).filter goodWord)
def wsX2_setSetpoint : List Cond := .code yX2_setSetpoint cX2_setSetpoint 4 (some .int) :: ([.fieldLink RX2 10 "Coldaisle" "settings" "LColdaisle$Settings;", .fieldLink RX2 45 "Coldaisle$Settings" "setpoint" "[I", .fieldLink RX2 19 "Coldaisle" "hall" "LColdaisle$Hall;", .fieldLink RX2 48 "Coldaisle$Hall" "errors" "[I", .methodLink RX2 34 yX2_requireZone, .static yX2_requireZone, .initialized RX2, .code yX2_requireZone cX2_requireZone 1 none, .methodLink RX2 38 yX2_requireWithin, .static yX2_requireWithin, .code yX2_requireWithin cX2_requireWithin 3 none, .classLink RX2 137 "java/lang/IllegalArgumentException", .initialized "java/lang/IllegalArgumentException"] ++ wsX20 ++ wsX10 ++ wsX00 ++ (vx_atS RX2 141 "java/lang/IllegalArgumentException" ["java/lang/RuntimeException", "java/lang/Exception"]).filter goodWord)
def wsX2_requireFan : List Cond := .code yX2_requireFan cX2_requireFan 1 none :: ([.methodLink RX2 38 yX2_requireWithin, .static yX2_requireWithin, .initialized RX2, .code yX2_requireWithin cX2_requireWithin 3 none, .classLink RX2 137 "java/lang/IllegalArgumentException", .initialized "java/lang/IllegalArgumentException"] ++ (vx_atS RX2 141 "java/lang/IllegalArgumentException" ["java/lang/RuntimeException", "java/lang/Exception"]).filter goodWord)
def wsX2_setEffect : List Cond := .code yX2_setEffect cX2_setEffect 5 (some .int) :: ([.fieldLink RX2 10 "Coldaisle" "settings" "LColdaisle$Settings;", .fieldLink RX2 54 "Coldaisle$Settings" "effect" "[[I", .methodLink RX2 51 yX2_requireFan, .static yX2_requireFan, .initialized RX2, .code yX2_requireFan cX2_requireFan 1 none, .methodLink RX2 38 yX2_requireWithin, .static yX2_requireWithin, .code yX2_requireWithin cX2_requireWithin 3 none, .classLink RX2 137 "java/lang/IllegalArgumentException", .initialized "java/lang/IllegalArgumentException", .methodLink RX2 34 yX2_requireZone, .static yX2_requireZone, .code yX2_requireZone cX2_requireZone 1 none] ++ wsX20 ++ wsX10 ++ (vx_atS RX2 141 "java/lang/IllegalArgumentException" ["java/lang/RuntimeException", "java/lang/Exception"]).filter goodWord)
def wsX2_setGains : List Cond := .code yX2_setGains cX2_setGains 3 none :: ([.fieldLink RX2 10 "Coldaisle" "settings" "LColdaisle$Settings;", .fieldLink RX2 58 "Coldaisle$Settings" "proportional" "I", .fieldLink RX2 61 "Coldaisle$Settings" "integral" "I", .methodLink RX2 38 yX2_requireWithin, .static yX2_requireWithin, .initialized RX2, .code yX2_requireWithin cX2_requireWithin 3 none, .classLink RX2 137 "java/lang/IllegalArgumentException", .initialized "java/lang/IllegalArgumentException"] ++ wsX20 ++ wsX10 ++ (vx_atS RX2 141 "java/lang/IllegalArgumentException" ["java/lang/RuntimeException", "java/lang/Exception"]).filter goodWord)
def wsX2_setHall : List Cond := .code yX2_setHall cX2_setHall 3 none :: ([.fieldLink RX2 10 "Coldaisle" "settings" "LColdaisle$Settings;", .fieldLink RX2 64 "Coldaisle$Settings" "ambient" "I", .fieldLink RX2 67 "Coldaisle$Settings" "limit" "I", .methodLink RX2 38 yX2_requireWithin, .static yX2_requireWithin, .initialized RX2, .code yX2_requireWithin cX2_requireWithin 3 none, .classLink RX2 137 "java/lang/IllegalArgumentException", .initialized "java/lang/IllegalArgumentException"] ++ wsX20 ++ wsX10 ++ (vx_atS RX2 141 "java/lang/IllegalArgumentException" ["java/lang/RuntimeException", "java/lang/Exception"]).filter goodWord)
def wsX2_setDelay : List Cond := .code yX2_setDelay cX2_setDelay 3 (some .int) :: ([.fieldLink RX2 10 "Coldaisle" "settings" "LColdaisle$Settings;", .fieldLink RX2 70 "Coldaisle$Settings" "delay" "I", .methodLink RX2 38 yX2_requireWithin, .static yX2_requireWithin, .initialized RX2, .code yX2_requireWithin cX2_requireWithin 3 none, .classLink RX2 137 "java/lang/IllegalArgumentException", .initialized "java/lang/IllegalArgumentException"] ++ wsX20 ++ wsX10 ++ (vx_atS RX2 141 "java/lang/IllegalArgumentException" ["java/lang/RuntimeException", "java/lang/Exception"]).filter goodWord)
def wsX2_fail : List Cond := .code yX2_fail cX2_fail 2 (some .int) :: ([.classLink RX2 77 "java/lang/IllegalStateException", .initialized "java/lang/IllegalStateException", .fieldLink RX2 19 "Coldaisle" "hall" "LColdaisle$Hall;", .fieldLink RX2 73 "Coldaisle$Hall" "failed" "[Z", .methodLink RX2 51 yX2_requireFan, .static yX2_requireFan, .initialized RX2, .code yX2_requireFan cX2_requireFan 1 none, .methodLink RX2 38 yX2_requireWithin, .static yX2_requireWithin, .code yX2_requireWithin cX2_requireWithin 3 none, .classLink RX2 137 "java/lang/IllegalArgumentException", .initialized "java/lang/IllegalArgumentException", .methodLink RX2 84 yX0_stopFan, .instanceMethod yX0_stopFan, .selects RX0 yX0_stopFan yX0_stopFan, .initialized RX0, .code yX0_stopFan cX0_stopFan 2 none, .fieldLink RX0 21 "Coldaisle$Hall" "failed" "[Z", .fieldLink RX0 25 "Coldaisle$Hall" "speed" "[I", .methodLink RX2 87 yX0_countRunning, .instanceMethod yX0_countRunning, .selects RX0 yX0_countRunning yX0_countRunning, .code yX0_countRunning cX0_countRunning 3 (some .int)] ++ wsX20 ++ wsX00 ++ (vx_atS RX2 81 "java/lang/IllegalStateException" ["java/lang/RuntimeException", "java/lang/Exception"]).filter goodWord ++ (vx_atS RX2 141 "java/lang/IllegalArgumentException" ["java/lang/RuntimeException", "java/lang/Exception"]).filter goodWord)
def wsX2_repair : List Cond := .code yX2_repair cX2_repair 2 (some .int) :: ([.classLink RX2 77 "java/lang/IllegalStateException", .initialized "java/lang/IllegalStateException", .fieldLink RX2 19 "Coldaisle" "hall" "LColdaisle$Hall;", .fieldLink RX2 73 "Coldaisle$Hall" "failed" "[Z", .methodLink RX2 51 yX2_requireFan, .static yX2_requireFan, .initialized RX2, .code yX2_requireFan cX2_requireFan 1 none, .methodLink RX2 38 yX2_requireWithin, .static yX2_requireWithin, .code yX2_requireWithin cX2_requireWithin 3 none, .classLink RX2 137 "java/lang/IllegalArgumentException", .initialized "java/lang/IllegalArgumentException", .methodLink RX2 87 yX0_countRunning, .instanceMethod yX0_countRunning, .selects RX0 yX0_countRunning yX0_countRunning, .initialized RX0, .code yX0_countRunning cX0_countRunning 3 (some .int), .fieldLink RX0 21 "Coldaisle$Hall" "failed" "[Z"] ++ wsX20 ++ wsX00 ++ (vx_atS RX2 81 "java/lang/IllegalStateException" ["java/lang/RuntimeException", "java/lang/Exception"]).filter goodWord ++ (vx_atS RX2 141 "java/lang/IllegalArgumentException" ["java/lang/RuntimeException", "java/lang/Exception"]).filter goodWord)
def wsX2_command : List Cond := .code yX2_command cX2_command 2 (some .int) :: ([.fieldLink RX2 19 "Coldaisle" "hall" "LColdaisle$Hall;", .methodLink RX2 51 yX2_requireFan, .static yX2_requireFan, .initialized RX2, .code yX2_requireFan cX2_requireFan 1 none, .methodLink RX2 38 yX2_requireWithin, .static yX2_requireWithin, .code yX2_requireWithin cX2_requireWithin 3 none, .classLink RX2 137 "java/lang/IllegalArgumentException", .initialized "java/lang/IllegalArgumentException", .methodLink RX2 93 yX0_commandsAgo, .instanceMethod yX0_commandsAgo, .selects RX0 yX0_commandsAgo yX0_commandsAgo, .initialized RX0, .code yX0_commandsAgo cX0_commandsAgo 2 (some (.array .int)), .fieldLink RX0 30 "Coldaisle$Hall" "commands" "[[I", .fieldLink RX0 33 "Coldaisle$Hall" "lastMinute" "I", .methodLink RX0 43 yJ9_floorMod_7cf53, .static yJ9_floorMod_7cf53, .initialized RJ9, .code yJ9_floorMod_7cf53 cJ9_floorMod_7cf53 3 (some .int)] ++ wsX20 ++ wsX00 ++ (vx_atS RX2 141 "java/lang/IllegalArgumentException" ["java/lang/RuntimeException", "java/lang/Exception"]).filter goodWord)
def wsX2_speed : List Cond := .code yX2_speed cX2_speed 2 (some .int) :: ([.fieldLink RX2 19 "Coldaisle" "hall" "LColdaisle$Hall;", .fieldLink RX2 97 "Coldaisle$Hall" "speed" "[I", .methodLink RX2 51 yX2_requireFan, .static yX2_requireFan, .initialized RX2, .code yX2_requireFan cX2_requireFan 1 none, .methodLink RX2 38 yX2_requireWithin, .static yX2_requireWithin, .code yX2_requireWithin cX2_requireWithin 3 none, .classLink RX2 137 "java/lang/IllegalArgumentException", .initialized "java/lang/IllegalArgumentException"] ++ wsX20 ++ wsX00 ++ (vx_atS RX2 141 "java/lang/IllegalArgumentException" ["java/lang/RuntimeException", "java/lang/Exception"]).filter goodWord)
def wsX2_noteHotZones : List Cond := .code yX2_noteHotZones cX2_noteHotZones 3 (some .int) :: ([.fieldLink RX2 19 "Coldaisle" "hall" "LColdaisle$Hall;", .fieldLink RX2 110 "Coldaisle$Hall" "temperature" "[I", .fieldLink RX2 10 "Coldaisle" "settings" "LColdaisle$Settings;", .fieldLink RX2 67 "Coldaisle$Settings" "limit" "I", .fieldLink RX2 26 "Coldaisle" "hotMinutes" "[I"] ++ wsX20 ++ wsX00 ++ wsX10)
def wsX2_pass_r1 : List Cond := [Cond.classLink RX2 77 "java/lang/IllegalStateException", Cond.initialized "java/lang/IllegalStateException", Cond.fieldLink RX2 30 "Coldaisle" "clock" "I", Cond.constant RX2 100 (100000), Cond.fieldLink RX2 19 "Coldaisle" "hall" "LColdaisle$Hall;", Cond.fieldLink RX2 10 "Coldaisle" "settings" "LColdaisle$Settings;", Cond.methodLink RX2 38 yX2_requireWithin, Cond.static yX2_requireWithin, Cond.initialized RX2, Cond.code yX2_requireWithin cX2_requireWithin 3 none, Cond.classLink RX2 137 "java/lang/IllegalArgumentException", Cond.initialized "java/lang/IllegalArgumentException", Cond.methodLink RX2 103 yX0_runMinute, Cond.instanceMethod yX0_runMinute, Cond.selects RX0 yX0_runMinute yX0_runMinute, Cond.initialized RX0, Cond.code yX0_runMinute cX0_runMinute 4 none, Cond.fieldLink RX0 18 "Coldaisle$Hall" "demand" "[I", Cond.fieldLink RX0 9 "Coldaisle$Hall" "temperature" "[I", Cond.methodLink RX0 49 yX0_control, Cond.instanceMethod yX0_control, Cond.selects RX0 yX0_control yX0_control, Cond.code yX0_control cX0_control 7 (some .int), Cond.fieldLink RX0 67 "Coldaisle$Settings" "setpoint" "[I"]
def wsX2_pass_r2 : List Cond := [Cond.fieldLink RX0 15 "Coldaisle$Hall" "errors" "[I", Cond.fieldLink RX0 76 "Coldaisle$Settings" "integral" "I", Cond.fieldLink RX0 82 "Coldaisle$Settings" "proportional" "I", Cond.static yX2_holdWithin, Cond.code yX2_holdWithin cX2_holdWithin 3 (some .int), Cond.methodLink RX2 142 Lib.Math.min.name, Cond.static Lib.Math.min.name, Cond.initialized "java/lang/Math", Cond.code Lib.Math.min.name Lib.Math.min.code 2 (some .int), Cond.methodLink RX2 132 Lib.Math.max.name, Cond.static Lib.Math.max.name, Cond.code Lib.Math.max.name Lib.Math.max.code 2 (some .int), Cond.methodLink RX0 79 yJ9_floorDiv_7cf53, Cond.static yJ9_floorDiv_7cf53, Cond.initialized RJ9, Cond.code yJ9_floorDiv_7cf53 cJ9_floorDiv_7cf53 3 (some .int), Cond.methodLink RX0 53 yX0_raiseForFailures, Cond.instanceMethod yX0_raiseForFailures, Cond.selects RX0 yX0_raiseForFailures yX0_raiseForFailures, Cond.code yX0_raiseForFailures cX0_raiseForFailures 8 (some .int), Cond.fieldLink RX0 85 "Coldaisle$Settings" "effect" "[[I", Cond.fieldLink RX0 21 "Coldaisle$Hall" "failed" "[Z", Cond.methodLink RX0 88 Lib.Math.min.name, Cond.methodLink RX0 57 yX0_commandFans]
def wsX2_pass_r3 : List Cond := [Cond.instanceMethod yX0_commandFans, Cond.selects RX0 yX0_commandFans yX0_commandFans, Cond.code yX0_commandFans cX0_commandFans 4 none, Cond.fieldLink RX0 33 "Coldaisle$Hall" "lastMinute" "I", Cond.methodLink RX0 43 yJ9_floorMod_7cf53, Cond.static yJ9_floorMod_7cf53, Cond.code yJ9_floorMod_7cf53 cJ9_floorMod_7cf53 3 (some .int), Cond.methodLink RX0 91 yX0_commandsAgo, Cond.instanceMethod yX0_commandsAgo, Cond.selects RX0 yX0_commandsAgo yX0_commandsAgo, Cond.code yX0_commandsAgo cX0_commandsAgo 2 (some (.array .int)), Cond.fieldLink RX0 30 "Coldaisle$Hall" "commands" "[[I", Cond.methodLink RX0 95 yX0_greatestDemand, Cond.instanceMethod yX0_greatestDemand, Cond.selects RX0 yX0_greatestDemand yX0_greatestDemand, Cond.code yX0_greatestDemand cX0_greatestDemand 4 (some .int), Cond.methodLink RX0 99 Lib.Math.max.name, Cond.methodLink RX0 61 yX0_turnFans, Cond.instanceMethod yX0_turnFans, Cond.selects RX0 yX0_turnFans yX0_turnFans, Cond.code yX0_turnFans cX0_turnFans 4 none, Cond.fieldLink RX0 102 "Coldaisle$Settings" "delay" "I", Cond.fieldLink RX0 25 "Coldaisle$Hall" "speed" "[I", Cond.methodLink RX0 64 yX0_nextTemperature]
def wsX2_pass_r4 : List Cond := [Cond.instanceMethod yX0_nextTemperature, Cond.selects RX0 yX0_nextTemperature yX0_nextTemperature, Cond.code yX0_nextTemperature cX0_nextTemperature 6 (some .int), Cond.fieldLink RX0 105 "Coldaisle$Settings" "ambient" "I", Cond.fieldLink RX0 108 "Coldaisle$Settings" "load" "[I", Cond.methodLink RX2 107 yX2_noteHotZones, Cond.instanceMethod yX2_noteHotZones, Cond.selects RX2 yX2_noteHotZones yX2_noteHotZones, Cond.code yX2_noteHotZones cX2_noteHotZones 3 (some .int), Cond.fieldLink RX2 110 "Coldaisle$Hall" "temperature" "[I", Cond.fieldLink RX2 67 "Coldaisle$Settings" "limit" "I", Cond.fieldLink RX2 26 "Coldaisle" "hotMinutes" "[I"]
def wsX2_pass : List Cond := .code yX2_pass cX2_pass 4 (some .int) :: ((wsX2_pass_r1 ++ (wsX2_pass_r2 ++ (wsX2_pass_r3 ++ wsX2_pass_r4))) ++ wsX20 ++ wsX00 ++ wsX10 ++ (vx_atS RX2 81 "java/lang/IllegalStateException" ["java/lang/RuntimeException", "java/lang/Exception"]).filter goodWord ++ (vx_atS RX2 141 "java/lang/IllegalArgumentException" ["java/lang/RuntimeException", "java/lang/Exception"]).filter goodWord)
def wsX2_clock : List Cond := .code yX2_clock cX2_clock 1 (some .int) :: ([.fieldLink RX2 30 "Coldaisle" "clock" "I"] ++ wsX20)
def wsX2_temperature : List Cond := .code yX2_temperature cX2_temperature 2 (some .int) :: ([.fieldLink RX2 19 "Coldaisle" "hall" "LColdaisle$Hall;", .fieldLink RX2 110 "Coldaisle$Hall" "temperature" "[I", .methodLink RX2 34 yX2_requireZone, .static yX2_requireZone, .initialized RX2, .code yX2_requireZone cX2_requireZone 1 none, .methodLink RX2 38 yX2_requireWithin, .static yX2_requireWithin, .code yX2_requireWithin cX2_requireWithin 3 none, .classLink RX2 137 "java/lang/IllegalArgumentException", .initialized "java/lang/IllegalArgumentException"] ++ wsX20 ++ wsX00 ++ (vx_atS RX2 141 "java/lang/IllegalArgumentException" ["java/lang/RuntimeException", "java/lang/Exception"]).filter goodWord)
def wsX2_demand : List Cond := .code yX2_demand cX2_demand 2 (some .int) :: ([.fieldLink RX2 19 "Coldaisle" "hall" "LColdaisle$Hall;", .fieldLink RX2 113 "Coldaisle$Hall" "demand" "[I", .methodLink RX2 34 yX2_requireZone, .static yX2_requireZone, .initialized RX2, .code yX2_requireZone cX2_requireZone 1 none, .methodLink RX2 38 yX2_requireWithin, .static yX2_requireWithin, .code yX2_requireWithin cX2_requireWithin 3 none, .classLink RX2 137 "java/lang/IllegalArgumentException", .initialized "java/lang/IllegalArgumentException"] ++ wsX20 ++ wsX00 ++ (vx_atS RX2 141 "java/lang/IllegalArgumentException" ["java/lang/RuntimeException", "java/lang/Exception"]).filter goodWord)
def wsX2_errors : List Cond := .code yX2_errors cX2_errors 2 (some .int) :: ([.fieldLink RX2 19 "Coldaisle" "hall" "LColdaisle$Hall;", .fieldLink RX2 48 "Coldaisle$Hall" "errors" "[I", .methodLink RX2 34 yX2_requireZone, .static yX2_requireZone, .initialized RX2, .code yX2_requireZone cX2_requireZone 1 none, .methodLink RX2 38 yX2_requireWithin, .static yX2_requireWithin, .code yX2_requireWithin cX2_requireWithin 3 none, .classLink RX2 137 "java/lang/IllegalArgumentException", .initialized "java/lang/IllegalArgumentException"] ++ wsX20 ++ wsX00 ++ (vx_atS RX2 141 "java/lang/IllegalArgumentException" ["java/lang/RuntimeException", "java/lang/Exception"]).filter goodWord)
def wsX2_hotMinutes : List Cond := .code yX2_hotMinutes cX2_hotMinutes 2 (some .int) :: ([.fieldLink RX2 26 "Coldaisle" "hotMinutes" "[I", .methodLink RX2 34 yX2_requireZone, .static yX2_requireZone, .initialized RX2, .code yX2_requireZone cX2_requireZone 1 none, .methodLink RX2 38 yX2_requireWithin, .static yX2_requireWithin, .code yX2_requireWithin cX2_requireWithin 3 none, .classLink RX2 137 "java/lang/IllegalArgumentException", .initialized "java/lang/IllegalArgumentException"] ++ wsX20 ++ (vx_atS RX2 141 "java/lang/IllegalArgumentException" ["java/lang/RuntimeException", "java/lang/Exception"]).filter goodWord)
def wsX2_hottest : List Cond := .code yX2_hottest cX2_hottest 3 (some .int) :: ([.fieldLink RX2 19 "Coldaisle" "hall" "LColdaisle$Hall;", .fieldLink RX2 110 "Coldaisle$Hall" "temperature" "[I"] ++ wsX20 ++ wsX00)
def wsX2_requireForecast : List Cond := .code yX2_requireForecast cX2_requireForecast 2 none :: ([.methodLink RX2 34 yX2_requireZone, .static yX2_requireZone, .initialized RX2, .code yX2_requireZone cX2_requireZone 1 none, .methodLink RX2 38 yX2_requireWithin, .static yX2_requireWithin, .code yX2_requireWithin cX2_requireWithin 3 none, .classLink RX2 137 "java/lang/IllegalArgumentException", .initialized "java/lang/IllegalArgumentException"] ++ (vx_atS RX2 141 "java/lang/IllegalArgumentException" ["java/lang/RuntimeException", "java/lang/Exception"]).filter goodWord)
def wsX2_greatestTemperature_r1 : List Cond := [Cond.fieldLink RX2 23 "Coldaisle" "trial" "LColdaisle$Hall;", Cond.fieldLink RX2 19 "Coldaisle" "hall" "LColdaisle$Hall;", Cond.fieldLink RX2 10 "Coldaisle" "settings" "LColdaisle$Settings;", Cond.fieldLink RX2 110 "Coldaisle$Hall" "temperature" "[I", Cond.methodLink RX2 132 Lib.Math.max.name, Cond.static Lib.Math.max.name, Cond.initialized "java/lang/Math", Cond.code Lib.Math.max.name Lib.Math.max.code 2 (some .int), Cond.methodLink RX2 128 yX0_copyFrom, Cond.instanceMethod yX0_copyFrom, Cond.selects RX0 yX0_copyFrom yX0_copyFrom, Cond.initialized RX0, Cond.code yX0_copyFrom cX0_copyFrom 3 none, Cond.fieldLink RX0 9 "Coldaisle$Hall" "temperature" "[I", Cond.methodLink RX0 37 arraycopyName, Cond.native arraycopyName, Cond.static arraycopyName, Cond.initialized "java/lang/System", Cond.fieldLink RX0 15 "Coldaisle$Hall" "errors" "[I", Cond.fieldLink RX0 18 "Coldaisle$Hall" "demand" "[I", Cond.fieldLink RX0 25 "Coldaisle$Hall" "speed" "[I", Cond.fieldLink RX0 21 "Coldaisle$Hall" "failed" "[Z", Cond.fieldLink RX0 30 "Coldaisle$Hall" "commands" "[[I", Cond.fieldLink RX0 33 "Coldaisle$Hall" "lastMinute" "I"]
def wsX2_greatestTemperature_r2 : List Cond := [Cond.methodLink RX2 84 yX0_stopFan, Cond.instanceMethod yX0_stopFan, Cond.selects RX0 yX0_stopFan yX0_stopFan, Cond.code yX0_stopFan cX0_stopFan 2 none, Cond.methodLink RX2 103 yX0_runMinute, Cond.instanceMethod yX0_runMinute, Cond.selects RX0 yX0_runMinute yX0_runMinute, Cond.code yX0_runMinute cX0_runMinute 4 none, Cond.methodLink RX0 49 yX0_control, Cond.instanceMethod yX0_control, Cond.selects RX0 yX0_control yX0_control, Cond.code yX0_control cX0_control 7 (some .int), Cond.fieldLink RX0 67 "Coldaisle$Settings" "setpoint" "[I", Cond.fieldLink RX0 76 "Coldaisle$Settings" "integral" "I", Cond.fieldLink RX0 82 "Coldaisle$Settings" "proportional" "I", Cond.static yX2_holdWithin, Cond.initialized RX2, Cond.code yX2_holdWithin cX2_holdWithin 3 (some .int), Cond.methodLink RX2 142 Lib.Math.min.name, Cond.static Lib.Math.min.name, Cond.code Lib.Math.min.name Lib.Math.min.code 2 (some .int), Cond.methodLink RX0 79 yJ9_floorDiv_7cf53, Cond.static yJ9_floorDiv_7cf53, Cond.initialized RJ9]
def wsX2_greatestTemperature_r3 : List Cond := [Cond.code yJ9_floorDiv_7cf53 cJ9_floorDiv_7cf53 3 (some .int), Cond.methodLink RX0 53 yX0_raiseForFailures, Cond.instanceMethod yX0_raiseForFailures, Cond.selects RX0 yX0_raiseForFailures yX0_raiseForFailures, Cond.code yX0_raiseForFailures cX0_raiseForFailures 8 (some .int), Cond.fieldLink RX0 85 "Coldaisle$Settings" "effect" "[[I", Cond.methodLink RX0 88 Lib.Math.min.name, Cond.methodLink RX0 57 yX0_commandFans, Cond.instanceMethod yX0_commandFans, Cond.selects RX0 yX0_commandFans yX0_commandFans, Cond.code yX0_commandFans cX0_commandFans 4 none, Cond.methodLink RX0 43 yJ9_floorMod_7cf53, Cond.static yJ9_floorMod_7cf53, Cond.code yJ9_floorMod_7cf53 cJ9_floorMod_7cf53 3 (some .int), Cond.methodLink RX0 91 yX0_commandsAgo, Cond.instanceMethod yX0_commandsAgo, Cond.selects RX0 yX0_commandsAgo yX0_commandsAgo, Cond.code yX0_commandsAgo cX0_commandsAgo 2 (some (.array .int)), Cond.methodLink RX0 95 yX0_greatestDemand, Cond.instanceMethod yX0_greatestDemand, Cond.selects RX0 yX0_greatestDemand yX0_greatestDemand, Cond.code yX0_greatestDemand cX0_greatestDemand 4 (some .int), Cond.methodLink RX0 99 Lib.Math.max.name, Cond.methodLink RX0 61 yX0_turnFans]
def wsX2_greatestTemperature_r4 : List Cond := [Cond.instanceMethod yX0_turnFans, Cond.selects RX0 yX0_turnFans yX0_turnFans, Cond.code yX0_turnFans cX0_turnFans 4 none, Cond.fieldLink RX0 102 "Coldaisle$Settings" "delay" "I", Cond.methodLink RX0 64 yX0_nextTemperature, Cond.instanceMethod yX0_nextTemperature, Cond.selects RX0 yX0_nextTemperature yX0_nextTemperature, Cond.code yX0_nextTemperature cX0_nextTemperature 6 (some .int), Cond.fieldLink RX0 105 "Coldaisle$Settings" "ambient" "I", Cond.fieldLink RX0 108 "Coldaisle$Settings" "load" "[I"]
def wsX2_greatestTemperature : List Cond := .code yX2_greatestTemperature cX2_greatestTemperature 6 (some .int) :: ((wsX2_greatestTemperature_r1 ++ (wsX2_greatestTemperature_r2 ++ (wsX2_greatestTemperature_r3 ++ wsX2_greatestTemperature_r4))) ++ wsX20 ++ wsX00 ++ wsX10)
def wsX2_expected_r1 : List Cond := [Cond.methodLink RX2 116 yX2_requireForecast, Cond.static yX2_requireForecast, Cond.initialized RX2, Cond.code yX2_requireForecast cX2_requireForecast 2 none, Cond.methodLink RX2 34 yX2_requireZone, Cond.static yX2_requireZone, Cond.code yX2_requireZone cX2_requireZone 1 none, Cond.methodLink RX2 38 yX2_requireWithin, Cond.static yX2_requireWithin, Cond.code yX2_requireWithin cX2_requireWithin 3 none, Cond.classLink RX2 137 "java/lang/IllegalArgumentException", Cond.initialized "java/lang/IllegalArgumentException", Cond.methodLink RX2 120 yX2_greatestTemperature, Cond.instanceMethod yX2_greatestTemperature, Cond.selects RX2 yX2_greatestTemperature yX2_greatestTemperature, Cond.code yX2_greatestTemperature cX2_greatestTemperature 6 (some .int), Cond.fieldLink RX2 23 "Coldaisle" "trial" "LColdaisle$Hall;", Cond.fieldLink RX2 19 "Coldaisle" "hall" "LColdaisle$Hall;", Cond.fieldLink RX2 10 "Coldaisle" "settings" "LColdaisle$Settings;", Cond.fieldLink RX2 110 "Coldaisle$Hall" "temperature" "[I", Cond.methodLink RX2 132 Lib.Math.max.name, Cond.static Lib.Math.max.name, Cond.initialized "java/lang/Math", Cond.code Lib.Math.max.name Lib.Math.max.code 2 (some .int)]
def wsX2_expected_r2 : List Cond := [Cond.methodLink RX2 128 yX0_copyFrom, Cond.instanceMethod yX0_copyFrom, Cond.selects RX0 yX0_copyFrom yX0_copyFrom, Cond.initialized RX0, Cond.code yX0_copyFrom cX0_copyFrom 3 none, Cond.fieldLink RX0 9 "Coldaisle$Hall" "temperature" "[I", Cond.methodLink RX0 37 arraycopyName, Cond.native arraycopyName, Cond.static arraycopyName, Cond.initialized "java/lang/System", Cond.fieldLink RX0 15 "Coldaisle$Hall" "errors" "[I", Cond.fieldLink RX0 18 "Coldaisle$Hall" "demand" "[I", Cond.fieldLink RX0 25 "Coldaisle$Hall" "speed" "[I", Cond.fieldLink RX0 21 "Coldaisle$Hall" "failed" "[Z", Cond.fieldLink RX0 30 "Coldaisle$Hall" "commands" "[[I", Cond.fieldLink RX0 33 "Coldaisle$Hall" "lastMinute" "I", Cond.methodLink RX2 84 yX0_stopFan, Cond.instanceMethod yX0_stopFan, Cond.selects RX0 yX0_stopFan yX0_stopFan, Cond.code yX0_stopFan cX0_stopFan 2 none, Cond.methodLink RX2 103 yX0_runMinute, Cond.instanceMethod yX0_runMinute, Cond.selects RX0 yX0_runMinute yX0_runMinute, Cond.code yX0_runMinute cX0_runMinute 4 none]
def wsX2_expected_r3 : List Cond := [Cond.methodLink RX0 49 yX0_control, Cond.instanceMethod yX0_control, Cond.selects RX0 yX0_control yX0_control, Cond.code yX0_control cX0_control 7 (some .int), Cond.fieldLink RX0 67 "Coldaisle$Settings" "setpoint" "[I", Cond.fieldLink RX0 76 "Coldaisle$Settings" "integral" "I", Cond.fieldLink RX0 82 "Coldaisle$Settings" "proportional" "I", Cond.static yX2_holdWithin, Cond.code yX2_holdWithin cX2_holdWithin 3 (some .int), Cond.methodLink RX2 142 Lib.Math.min.name, Cond.static Lib.Math.min.name, Cond.code Lib.Math.min.name Lib.Math.min.code 2 (some .int), Cond.methodLink RX0 79 yJ9_floorDiv_7cf53, Cond.static yJ9_floorDiv_7cf53, Cond.initialized RJ9, Cond.code yJ9_floorDiv_7cf53 cJ9_floorDiv_7cf53 3 (some .int), Cond.methodLink RX0 53 yX0_raiseForFailures, Cond.instanceMethod yX0_raiseForFailures, Cond.selects RX0 yX0_raiseForFailures yX0_raiseForFailures, Cond.code yX0_raiseForFailures cX0_raiseForFailures 8 (some .int), Cond.fieldLink RX0 85 "Coldaisle$Settings" "effect" "[[I", Cond.methodLink RX0 88 Lib.Math.min.name, Cond.methodLink RX0 57 yX0_commandFans, Cond.instanceMethod yX0_commandFans]
def wsX2_expected_r4 : List Cond := [Cond.selects RX0 yX0_commandFans yX0_commandFans, Cond.code yX0_commandFans cX0_commandFans 4 none, Cond.methodLink RX0 43 yJ9_floorMod_7cf53, Cond.static yJ9_floorMod_7cf53, Cond.code yJ9_floorMod_7cf53 cJ9_floorMod_7cf53 3 (some .int), Cond.methodLink RX0 91 yX0_commandsAgo, Cond.instanceMethod yX0_commandsAgo, Cond.selects RX0 yX0_commandsAgo yX0_commandsAgo, Cond.code yX0_commandsAgo cX0_commandsAgo 2 (some (.array .int)), Cond.methodLink RX0 95 yX0_greatestDemand, Cond.instanceMethod yX0_greatestDemand, Cond.selects RX0 yX0_greatestDemand yX0_greatestDemand, Cond.code yX0_greatestDemand cX0_greatestDemand 4 (some .int), Cond.methodLink RX0 99 Lib.Math.max.name, Cond.methodLink RX0 61 yX0_turnFans, Cond.instanceMethod yX0_turnFans, Cond.selects RX0 yX0_turnFans yX0_turnFans, Cond.code yX0_turnFans cX0_turnFans 4 none, Cond.fieldLink RX0 102 "Coldaisle$Settings" "delay" "I", Cond.methodLink RX0 64 yX0_nextTemperature, Cond.instanceMethod yX0_nextTemperature, Cond.selects RX0 yX0_nextTemperature yX0_nextTemperature, Cond.code yX0_nextTemperature cX0_nextTemperature 6 (some .int), Cond.fieldLink RX0 105 "Coldaisle$Settings" "ambient" "I"]
def wsX2_expected_r5 : List Cond := [Cond.fieldLink RX0 108 "Coldaisle$Settings" "load" "[I"]
def wsX2_expected : List Cond := .code yX2_expected cX2_expected 3 (some .int) :: ((wsX2_expected_r1 ++ (wsX2_expected_r2 ++ (wsX2_expected_r3 ++ (wsX2_expected_r4 ++ wsX2_expected_r5)))) ++ wsX20 ++ wsX00 ++ wsX10 ++ (vx_atS RX2 141 "java/lang/IllegalArgumentException" ["java/lang/RuntimeException", "java/lang/Exception"]).filter goodWord)
def wsX2_criticalFan_r1 : List Cond := [Cond.fieldLink RX2 19 "Coldaisle" "hall" "LColdaisle$Hall;", Cond.fieldLink RX2 73 "Coldaisle$Hall" "failed" "[Z", Cond.methodLink RX2 120 yX2_greatestTemperature, Cond.instanceMethod yX2_greatestTemperature, Cond.selects RX2 yX2_greatestTemperature yX2_greatestTemperature, Cond.initialized RX2, Cond.code yX2_greatestTemperature cX2_greatestTemperature 6 (some .int), Cond.fieldLink RX2 23 "Coldaisle" "trial" "LColdaisle$Hall;", Cond.fieldLink RX2 10 "Coldaisle" "settings" "LColdaisle$Settings;", Cond.fieldLink RX2 110 "Coldaisle$Hall" "temperature" "[I", Cond.methodLink RX2 132 Lib.Math.max.name, Cond.static Lib.Math.max.name, Cond.initialized "java/lang/Math", Cond.code Lib.Math.max.name Lib.Math.max.code 2 (some .int), Cond.methodLink RX2 128 yX0_copyFrom, Cond.instanceMethod yX0_copyFrom, Cond.selects RX0 yX0_copyFrom yX0_copyFrom, Cond.initialized RX0, Cond.code yX0_copyFrom cX0_copyFrom 3 none, Cond.fieldLink RX0 9 "Coldaisle$Hall" "temperature" "[I", Cond.methodLink RX0 37 arraycopyName, Cond.native arraycopyName, Cond.static arraycopyName, Cond.initialized "java/lang/System"]
def wsX2_criticalFan_r2 : List Cond := [Cond.fieldLink RX0 15 "Coldaisle$Hall" "errors" "[I", Cond.fieldLink RX0 18 "Coldaisle$Hall" "demand" "[I", Cond.fieldLink RX0 25 "Coldaisle$Hall" "speed" "[I", Cond.fieldLink RX0 21 "Coldaisle$Hall" "failed" "[Z", Cond.fieldLink RX0 30 "Coldaisle$Hall" "commands" "[[I", Cond.fieldLink RX0 33 "Coldaisle$Hall" "lastMinute" "I", Cond.methodLink RX2 84 yX0_stopFan, Cond.instanceMethod yX0_stopFan, Cond.selects RX0 yX0_stopFan yX0_stopFan, Cond.code yX0_stopFan cX0_stopFan 2 none, Cond.methodLink RX2 103 yX0_runMinute, Cond.instanceMethod yX0_runMinute, Cond.selects RX0 yX0_runMinute yX0_runMinute, Cond.code yX0_runMinute cX0_runMinute 4 none, Cond.methodLink RX0 49 yX0_control, Cond.instanceMethod yX0_control, Cond.selects RX0 yX0_control yX0_control, Cond.code yX0_control cX0_control 7 (some .int), Cond.fieldLink RX0 67 "Coldaisle$Settings" "setpoint" "[I", Cond.fieldLink RX0 76 "Coldaisle$Settings" "integral" "I", Cond.fieldLink RX0 82 "Coldaisle$Settings" "proportional" "I", Cond.static yX2_holdWithin, Cond.code yX2_holdWithin cX2_holdWithin 3 (some .int), Cond.methodLink RX2 142 Lib.Math.min.name]
def wsX2_criticalFan_r3 : List Cond := [Cond.static Lib.Math.min.name, Cond.code Lib.Math.min.name Lib.Math.min.code 2 (some .int), Cond.methodLink RX0 79 yJ9_floorDiv_7cf53, Cond.static yJ9_floorDiv_7cf53, Cond.initialized RJ9, Cond.code yJ9_floorDiv_7cf53 cJ9_floorDiv_7cf53 3 (some .int), Cond.methodLink RX0 53 yX0_raiseForFailures, Cond.instanceMethod yX0_raiseForFailures, Cond.selects RX0 yX0_raiseForFailures yX0_raiseForFailures, Cond.code yX0_raiseForFailures cX0_raiseForFailures 8 (some .int), Cond.fieldLink RX0 85 "Coldaisle$Settings" "effect" "[[I", Cond.methodLink RX0 88 Lib.Math.min.name, Cond.methodLink RX0 57 yX0_commandFans, Cond.instanceMethod yX0_commandFans, Cond.selects RX0 yX0_commandFans yX0_commandFans, Cond.code yX0_commandFans cX0_commandFans 4 none, Cond.methodLink RX0 43 yJ9_floorMod_7cf53, Cond.static yJ9_floorMod_7cf53, Cond.code yJ9_floorMod_7cf53 cJ9_floorMod_7cf53 3 (some .int), Cond.methodLink RX0 91 yX0_commandsAgo, Cond.instanceMethod yX0_commandsAgo, Cond.selects RX0 yX0_commandsAgo yX0_commandsAgo, Cond.code yX0_commandsAgo cX0_commandsAgo 2 (some (.array .int)), Cond.methodLink RX0 95 yX0_greatestDemand]
def wsX2_criticalFan_r4 : List Cond := [Cond.instanceMethod yX0_greatestDemand, Cond.selects RX0 yX0_greatestDemand yX0_greatestDemand, Cond.code yX0_greatestDemand cX0_greatestDemand 4 (some .int), Cond.methodLink RX0 99 Lib.Math.max.name, Cond.methodLink RX0 61 yX0_turnFans, Cond.instanceMethod yX0_turnFans, Cond.selects RX0 yX0_turnFans yX0_turnFans, Cond.code yX0_turnFans cX0_turnFans 4 none, Cond.fieldLink RX0 102 "Coldaisle$Settings" "delay" "I", Cond.methodLink RX0 64 yX0_nextTemperature, Cond.instanceMethod yX0_nextTemperature, Cond.selects RX0 yX0_nextTemperature yX0_nextTemperature, Cond.code yX0_nextTemperature cX0_nextTemperature 6 (some .int), Cond.fieldLink RX0 105 "Coldaisle$Settings" "ambient" "I", Cond.fieldLink RX0 108 "Coldaisle$Settings" "load" "[I"]
def wsX2_criticalFan : List Cond := .code yX2_criticalFan cX2_criticalFan 7 (some .int) :: ((wsX2_criticalFan_r1 ++ (wsX2_criticalFan_r2 ++ (wsX2_criticalFan_r3 ++ wsX2_criticalFan_r4))) ++ wsX20 ++ wsX00 ++ wsX10)
def wsX2_critical_r1 : List Cond := [Cond.methodLink RX2 116 yX2_requireForecast, Cond.static yX2_requireForecast, Cond.initialized RX2, Cond.code yX2_requireForecast cX2_requireForecast 2 none, Cond.methodLink RX2 34 yX2_requireZone, Cond.static yX2_requireZone, Cond.code yX2_requireZone cX2_requireZone 1 none, Cond.methodLink RX2 38 yX2_requireWithin, Cond.static yX2_requireWithin, Cond.code yX2_requireWithin cX2_requireWithin 3 none, Cond.classLink RX2 137 "java/lang/IllegalArgumentException", Cond.initialized "java/lang/IllegalArgumentException", Cond.methodLink RX2 124 yX2_criticalFan, Cond.instanceMethod yX2_criticalFan, Cond.selects RX2 yX2_criticalFan yX2_criticalFan, Cond.code yX2_criticalFan cX2_criticalFan 7 (some .int), Cond.fieldLink RX2 19 "Coldaisle" "hall" "LColdaisle$Hall;", Cond.fieldLink RX2 73 "Coldaisle$Hall" "failed" "[Z", Cond.methodLink RX2 120 yX2_greatestTemperature, Cond.instanceMethod yX2_greatestTemperature, Cond.selects RX2 yX2_greatestTemperature yX2_greatestTemperature, Cond.code yX2_greatestTemperature cX2_greatestTemperature 6 (some .int), Cond.fieldLink RX2 23 "Coldaisle" "trial" "LColdaisle$Hall;", Cond.fieldLink RX2 10 "Coldaisle" "settings" "LColdaisle$Settings;"]
def wsX2_critical_r2 : List Cond := [Cond.fieldLink RX2 110 "Coldaisle$Hall" "temperature" "[I", Cond.methodLink RX2 132 Lib.Math.max.name, Cond.static Lib.Math.max.name, Cond.initialized "java/lang/Math", Cond.code Lib.Math.max.name Lib.Math.max.code 2 (some .int), Cond.methodLink RX2 128 yX0_copyFrom, Cond.instanceMethod yX0_copyFrom, Cond.selects RX0 yX0_copyFrom yX0_copyFrom, Cond.initialized RX0, Cond.code yX0_copyFrom cX0_copyFrom 3 none, Cond.fieldLink RX0 9 "Coldaisle$Hall" "temperature" "[I", Cond.methodLink RX0 37 arraycopyName, Cond.native arraycopyName, Cond.static arraycopyName, Cond.initialized "java/lang/System", Cond.fieldLink RX0 15 "Coldaisle$Hall" "errors" "[I", Cond.fieldLink RX0 18 "Coldaisle$Hall" "demand" "[I", Cond.fieldLink RX0 25 "Coldaisle$Hall" "speed" "[I", Cond.fieldLink RX0 21 "Coldaisle$Hall" "failed" "[Z", Cond.fieldLink RX0 30 "Coldaisle$Hall" "commands" "[[I", Cond.fieldLink RX0 33 "Coldaisle$Hall" "lastMinute" "I", Cond.methodLink RX2 84 yX0_stopFan, Cond.instanceMethod yX0_stopFan, Cond.selects RX0 yX0_stopFan yX0_stopFan]
def wsX2_critical_r3 : List Cond := [Cond.code yX0_stopFan cX0_stopFan 2 none, Cond.methodLink RX2 103 yX0_runMinute, Cond.instanceMethod yX0_runMinute, Cond.selects RX0 yX0_runMinute yX0_runMinute, Cond.code yX0_runMinute cX0_runMinute 4 none, Cond.methodLink RX0 49 yX0_control, Cond.instanceMethod yX0_control, Cond.selects RX0 yX0_control yX0_control, Cond.code yX0_control cX0_control 7 (some .int), Cond.fieldLink RX0 67 "Coldaisle$Settings" "setpoint" "[I", Cond.fieldLink RX0 76 "Coldaisle$Settings" "integral" "I", Cond.fieldLink RX0 82 "Coldaisle$Settings" "proportional" "I", Cond.static yX2_holdWithin, Cond.code yX2_holdWithin cX2_holdWithin 3 (some .int), Cond.methodLink RX2 142 Lib.Math.min.name, Cond.static Lib.Math.min.name, Cond.code Lib.Math.min.name Lib.Math.min.code 2 (some .int), Cond.methodLink RX0 79 yJ9_floorDiv_7cf53, Cond.static yJ9_floorDiv_7cf53, Cond.initialized RJ9, Cond.code yJ9_floorDiv_7cf53 cJ9_floorDiv_7cf53 3 (some .int), Cond.methodLink RX0 53 yX0_raiseForFailures, Cond.instanceMethod yX0_raiseForFailures, Cond.selects RX0 yX0_raiseForFailures yX0_raiseForFailures]
def wsX2_critical_r4 : List Cond := [Cond.code yX0_raiseForFailures cX0_raiseForFailures 8 (some .int), Cond.fieldLink RX0 85 "Coldaisle$Settings" "effect" "[[I", Cond.methodLink RX0 88 Lib.Math.min.name, Cond.methodLink RX0 57 yX0_commandFans, Cond.instanceMethod yX0_commandFans, Cond.selects RX0 yX0_commandFans yX0_commandFans, Cond.code yX0_commandFans cX0_commandFans 4 none, Cond.methodLink RX0 43 yJ9_floorMod_7cf53, Cond.static yJ9_floorMod_7cf53, Cond.code yJ9_floorMod_7cf53 cJ9_floorMod_7cf53 3 (some .int), Cond.methodLink RX0 91 yX0_commandsAgo, Cond.instanceMethod yX0_commandsAgo, Cond.selects RX0 yX0_commandsAgo yX0_commandsAgo, Cond.code yX0_commandsAgo cX0_commandsAgo 2 (some (.array .int)), Cond.methodLink RX0 95 yX0_greatestDemand, Cond.instanceMethod yX0_greatestDemand, Cond.selects RX0 yX0_greatestDemand yX0_greatestDemand, Cond.code yX0_greatestDemand cX0_greatestDemand 4 (some .int), Cond.methodLink RX0 99 Lib.Math.max.name, Cond.methodLink RX0 61 yX0_turnFans, Cond.instanceMethod yX0_turnFans, Cond.selects RX0 yX0_turnFans yX0_turnFans, Cond.code yX0_turnFans cX0_turnFans 4 none, Cond.fieldLink RX0 102 "Coldaisle$Settings" "delay" "I"]
def wsX2_critical_r5 : List Cond := [Cond.methodLink RX0 64 yX0_nextTemperature, Cond.instanceMethod yX0_nextTemperature, Cond.selects RX0 yX0_nextTemperature yX0_nextTemperature, Cond.code yX0_nextTemperature cX0_nextTemperature 6 (some .int), Cond.fieldLink RX0 105 "Coldaisle$Settings" "ambient" "I", Cond.fieldLink RX0 108 "Coldaisle$Settings" "load" "[I"]
def wsX2_critical : List Cond := .code yX2_critical cX2_critical 3 (some .int) :: ((wsX2_critical_r1 ++ (wsX2_critical_r2 ++ (wsX2_critical_r3 ++ (wsX2_critical_r4 ++ wsX2_critical_r5)))) ++ wsX20 ++ wsX00 ++ wsX10 ++ (vx_atS RX2 141 "java/lang/IllegalArgumentException" ["java/lang/RuntimeException", "java/lang/Exception"]).filter goodWord)
def wsX2_margin_r1 : List Cond := [Cond.fieldLink RX2 10 "Coldaisle" "settings" "LColdaisle$Settings;", Cond.fieldLink RX2 67 "Coldaisle$Settings" "limit" "I", Cond.methodLink RX2 116 yX2_requireForecast, Cond.static yX2_requireForecast, Cond.initialized RX2, Cond.code yX2_requireForecast cX2_requireForecast 2 none, Cond.methodLink RX2 34 yX2_requireZone, Cond.static yX2_requireZone, Cond.code yX2_requireZone cX2_requireZone 1 none, Cond.methodLink RX2 38 yX2_requireWithin, Cond.static yX2_requireWithin, Cond.code yX2_requireWithin cX2_requireWithin 3 none, Cond.classLink RX2 137 "java/lang/IllegalArgumentException", Cond.initialized "java/lang/IllegalArgumentException", Cond.methodLink RX2 124 yX2_criticalFan, Cond.instanceMethod yX2_criticalFan, Cond.selects RX2 yX2_criticalFan yX2_criticalFan, Cond.code yX2_criticalFan cX2_criticalFan 7 (some .int), Cond.fieldLink RX2 19 "Coldaisle" "hall" "LColdaisle$Hall;", Cond.fieldLink RX2 73 "Coldaisle$Hall" "failed" "[Z", Cond.methodLink RX2 120 yX2_greatestTemperature, Cond.instanceMethod yX2_greatestTemperature, Cond.selects RX2 yX2_greatestTemperature yX2_greatestTemperature, Cond.code yX2_greatestTemperature cX2_greatestTemperature 6 (some .int)]
def wsX2_margin_r2 : List Cond := [Cond.fieldLink RX2 23 "Coldaisle" "trial" "LColdaisle$Hall;", Cond.fieldLink RX2 110 "Coldaisle$Hall" "temperature" "[I", Cond.methodLink RX2 132 Lib.Math.max.name, Cond.static Lib.Math.max.name, Cond.initialized "java/lang/Math", Cond.code Lib.Math.max.name Lib.Math.max.code 2 (some .int), Cond.methodLink RX2 128 yX0_copyFrom, Cond.instanceMethod yX0_copyFrom, Cond.selects RX0 yX0_copyFrom yX0_copyFrom, Cond.initialized RX0, Cond.code yX0_copyFrom cX0_copyFrom 3 none, Cond.fieldLink RX0 9 "Coldaisle$Hall" "temperature" "[I", Cond.methodLink RX0 37 arraycopyName, Cond.native arraycopyName, Cond.static arraycopyName, Cond.initialized "java/lang/System", Cond.fieldLink RX0 15 "Coldaisle$Hall" "errors" "[I", Cond.fieldLink RX0 18 "Coldaisle$Hall" "demand" "[I", Cond.fieldLink RX0 25 "Coldaisle$Hall" "speed" "[I", Cond.fieldLink RX0 21 "Coldaisle$Hall" "failed" "[Z", Cond.fieldLink RX0 30 "Coldaisle$Hall" "commands" "[[I", Cond.fieldLink RX0 33 "Coldaisle$Hall" "lastMinute" "I", Cond.methodLink RX2 84 yX0_stopFan, Cond.instanceMethod yX0_stopFan]
def wsX2_margin_r3 : List Cond := [Cond.selects RX0 yX0_stopFan yX0_stopFan, Cond.code yX0_stopFan cX0_stopFan 2 none, Cond.methodLink RX2 103 yX0_runMinute, Cond.instanceMethod yX0_runMinute, Cond.selects RX0 yX0_runMinute yX0_runMinute, Cond.code yX0_runMinute cX0_runMinute 4 none, Cond.methodLink RX0 49 yX0_control, Cond.instanceMethod yX0_control, Cond.selects RX0 yX0_control yX0_control, Cond.code yX0_control cX0_control 7 (some .int), Cond.fieldLink RX0 67 "Coldaisle$Settings" "setpoint" "[I", Cond.fieldLink RX0 76 "Coldaisle$Settings" "integral" "I", Cond.fieldLink RX0 82 "Coldaisle$Settings" "proportional" "I", Cond.static yX2_holdWithin, Cond.code yX2_holdWithin cX2_holdWithin 3 (some .int), Cond.methodLink RX2 142 Lib.Math.min.name, Cond.static Lib.Math.min.name, Cond.code Lib.Math.min.name Lib.Math.min.code 2 (some .int), Cond.methodLink RX0 79 yJ9_floorDiv_7cf53, Cond.static yJ9_floorDiv_7cf53, Cond.initialized RJ9, Cond.code yJ9_floorDiv_7cf53 cJ9_floorDiv_7cf53 3 (some .int), Cond.methodLink RX0 53 yX0_raiseForFailures, Cond.instanceMethod yX0_raiseForFailures]
def wsX2_margin_r4 : List Cond := [Cond.selects RX0 yX0_raiseForFailures yX0_raiseForFailures, Cond.code yX0_raiseForFailures cX0_raiseForFailures 8 (some .int), Cond.fieldLink RX0 85 "Coldaisle$Settings" "effect" "[[I", Cond.methodLink RX0 88 Lib.Math.min.name, Cond.methodLink RX0 57 yX0_commandFans, Cond.instanceMethod yX0_commandFans, Cond.selects RX0 yX0_commandFans yX0_commandFans, Cond.code yX0_commandFans cX0_commandFans 4 none, Cond.methodLink RX0 43 yJ9_floorMod_7cf53, Cond.static yJ9_floorMod_7cf53, Cond.code yJ9_floorMod_7cf53 cJ9_floorMod_7cf53 3 (some .int), Cond.methodLink RX0 91 yX0_commandsAgo, Cond.instanceMethod yX0_commandsAgo, Cond.selects RX0 yX0_commandsAgo yX0_commandsAgo, Cond.code yX0_commandsAgo cX0_commandsAgo 2 (some (.array .int)), Cond.methodLink RX0 95 yX0_greatestDemand, Cond.instanceMethod yX0_greatestDemand, Cond.selects RX0 yX0_greatestDemand yX0_greatestDemand, Cond.code yX0_greatestDemand cX0_greatestDemand 4 (some .int), Cond.methodLink RX0 99 Lib.Math.max.name, Cond.methodLink RX0 61 yX0_turnFans, Cond.instanceMethod yX0_turnFans, Cond.selects RX0 yX0_turnFans yX0_turnFans, Cond.code yX0_turnFans cX0_turnFans 4 none]
def wsX2_margin_r5 : List Cond := [Cond.fieldLink RX0 102 "Coldaisle$Settings" "delay" "I", Cond.methodLink RX0 64 yX0_nextTemperature, Cond.instanceMethod yX0_nextTemperature, Cond.selects RX0 yX0_nextTemperature yX0_nextTemperature, Cond.code yX0_nextTemperature cX0_nextTemperature 6 (some .int), Cond.fieldLink RX0 105 "Coldaisle$Settings" "ambient" "I", Cond.fieldLink RX0 108 "Coldaisle$Settings" "load" "[I"]
def wsX2_margin : List Cond := .code yX2_margin cX2_margin 4 (some .int) :: ((wsX2_margin_r1 ++ (wsX2_margin_r2 ++ (wsX2_margin_r3 ++ (wsX2_margin_r4 ++ wsX2_margin_r5)))) ++ wsX20 ++ wsX10 ++ wsX00 ++ (vx_atS RX2 141 "java/lang/IllegalArgumentException" ["java/lang/RuntimeException", "java/lang/Exception"]).filter goodWord)
def wsX3_init : List Cond := .code yX3_init cX3_init 2 none :: ([.methodLink RX3 1 objectInit, .instanceMethod objectInit, .code objectInit ⟨#[0xb1]⟩ 1 none, .arrayClass .int, .fieldLink RX3 7 "ColdaisleModel" "loads" "[I", .fieldLink RX3 13 "ColdaisleModel" "setpoints" "[I", .fieldLink RX3 16 "ColdaisleModel" "effects" "[I", .fieldLink RX3 19 "ColdaisleModel" "proportional" "I", .fieldLink RX3 23 "ColdaisleModel" "integral" "I", .fieldLink RX3 26 "ColdaisleModel" "ambient" "I", .fieldLink RX3 29 "ColdaisleModel" "limit" "I", .fieldLink RX3 32 "ColdaisleModel" "delay" "I", .fieldLink RX3 35 "ColdaisleModel" "clocks" "[I", .fieldLink RX3 38 "ColdaisleModel" "temperatures" "[I", .fieldLink RX3 41 "ColdaisleModel" "sums" "[I", .fieldLink RX3 44 "ColdaisleModel" "demands" "[I", .arrayClass .boolean, .fieldLink RX3 47 "ColdaisleModel" "hasFailed" "[Z", .fieldLink RX3 51 "ColdaisleModel" "speeds" "[I", .fieldLink RX3 54 "ColdaisleModel" "commands" "[I", .fieldLink RX3 57 "ColdaisleModel" "hots" "[I"] ++ wsX30)
def wsX3_thrown : List Cond := .code yX3_thrown cX3_thrown 1 (some .int) :: ([.fieldLink RX3 60 "ColdaisleModel" "thrown" "I"] ++ wsX30)
def wsX3_goes : List Cond := .code yX3_goes cX3_goes 2 (some .boolean) :: ([.fieldLink RX3 60 "ColdaisleModel" "thrown" "I"] ++ wsX30)
def wsX3_isIn : List Cond := .code yX3_isIn cX3_isIn 3 (some .boolean) :: ([])
def wsX3_isZone : List Cond := .code yX3_isZone cX3_isZone 1 (some .boolean) :: ([.methodLink RX3 63 yX3_isIn, .static yX3_isIn, .initialized RX3, .code yX3_isIn cX3_isIn 3 (some .boolean)])
def wsX3_isFan : List Cond := .code yX3_isFan cX3_isFan 1 (some .boolean) :: ([.methodLink RX3 63 yX3_isIn, .static yX3_isIn, .initialized RX3, .code yX3_isIn cX3_isIn 3 (some .boolean)])
def wsX3_part : List Cond := .code yX3_part cX3_part 2 (some .int) :: ([])
def wsX3_held : List Cond := .code yX3_held cX3_held 3 (some .int) :: ([])
def wsX3_setLoad : List Cond := .code yX3_setLoad cX3_setLoad 4 (some .int) :: ([.fieldLink RX3 7 "ColdaisleModel" "loads" "[I", .methodLink RX3 67 yX3_isZone, .static yX3_isZone, .initialized RX3, .code yX3_isZone cX3_isZone 1 (some .boolean), .methodLink RX3 63 yX3_isIn, .static yX3_isIn, .code yX3_isIn cX3_isIn 3 (some .boolean), .methodLink RX3 71 yX3_goes, .instanceMethod yX3_goes, .selects RX3 yX3_goes yX3_goes, .code yX3_goes cX3_goes 2 (some .boolean), .fieldLink RX3 60 "ColdaisleModel" "thrown" "I"] ++ wsX30)
def wsX3_setSetpoint : List Cond := .code yX3_setSetpoint cX3_setSetpoint 4 (some .int) :: ([.fieldLink RX3 13 "ColdaisleModel" "setpoints" "[I", .fieldLink RX3 41 "ColdaisleModel" "sums" "[I", .methodLink RX3 67 yX3_isZone, .static yX3_isZone, .initialized RX3, .code yX3_isZone cX3_isZone 1 (some .boolean), .methodLink RX3 63 yX3_isIn, .static yX3_isIn, .code yX3_isIn cX3_isIn 3 (some .boolean), .methodLink RX3 71 yX3_goes, .instanceMethod yX3_goes, .selects RX3 yX3_goes yX3_goes, .code yX3_goes cX3_goes 2 (some .boolean), .fieldLink RX3 60 "ColdaisleModel" "thrown" "I"] ++ wsX30)
def wsX3_setEffect : List Cond := .code yX3_setEffect cX3_setEffect 5 (some .int) :: ([.fieldLink RX3 16 "ColdaisleModel" "effects" "[I", .methodLink RX3 74 yX3_isFan, .static yX3_isFan, .initialized RX3, .code yX3_isFan cX3_isFan 1 (some .boolean), .methodLink RX3 63 yX3_isIn, .static yX3_isIn, .code yX3_isIn cX3_isIn 3 (some .boolean), .methodLink RX3 67 yX3_isZone, .static yX3_isZone, .code yX3_isZone cX3_isZone 1 (some .boolean), .methodLink RX3 71 yX3_goes, .instanceMethod yX3_goes, .selects RX3 yX3_goes yX3_goes, .code yX3_goes cX3_goes 2 (some .boolean), .fieldLink RX3 60 "ColdaisleModel" "thrown" "I"] ++ wsX30)
def wsX3_setGains : List Cond := .code yX3_setGains cX3_setGains 3 none :: ([.fieldLink RX3 19 "ColdaisleModel" "proportional" "I", .fieldLink RX3 23 "ColdaisleModel" "integral" "I", .methodLink RX3 63 yX3_isIn, .static yX3_isIn, .initialized RX3, .code yX3_isIn cX3_isIn 3 (some .boolean), .methodLink RX3 71 yX3_goes, .instanceMethod yX3_goes, .selects RX3 yX3_goes yX3_goes, .code yX3_goes cX3_goes 2 (some .boolean), .fieldLink RX3 60 "ColdaisleModel" "thrown" "I"] ++ wsX30)
def wsX3_setHall : List Cond := .code yX3_setHall cX3_setHall 3 none :: ([.fieldLink RX3 26 "ColdaisleModel" "ambient" "I", .fieldLink RX3 29 "ColdaisleModel" "limit" "I", .methodLink RX3 63 yX3_isIn, .static yX3_isIn, .initialized RX3, .code yX3_isIn cX3_isIn 3 (some .boolean), .methodLink RX3 71 yX3_goes, .instanceMethod yX3_goes, .selects RX3 yX3_goes yX3_goes, .code yX3_goes cX3_goes 2 (some .boolean), .fieldLink RX3 60 "ColdaisleModel" "thrown" "I"] ++ wsX30)
def wsX3_setDelay : List Cond := .code yX3_setDelay cX3_setDelay 3 (some .int) :: ([.fieldLink RX3 32 "ColdaisleModel" "delay" "I", .methodLink RX3 63 yX3_isIn, .static yX3_isIn, .initialized RX3, .code yX3_isIn cX3_isIn 3 (some .boolean), .methodLink RX3 71 yX3_goes, .instanceMethod yX3_goes, .selects RX3 yX3_goes yX3_goes, .code yX3_goes cX3_goes 2 (some .boolean), .fieldLink RX3 60 "ColdaisleModel" "thrown" "I"] ++ wsX30)
def wsX3_running : List Cond := .code yX3_running cX3_running 3 (some .int) :: ([.fieldLink RX3 47 "ColdaisleModel" "hasFailed" "[Z"] ++ wsX30)
def wsX3_fail : List Cond := .code yX3_fail cX3_fail 2 (some .int) :: ([.fieldLink RX3 47 "ColdaisleModel" "hasFailed" "[Z", .fieldLink RX3 51 "ColdaisleModel" "speeds" "[I", .methodLink RX3 74 yX3_isFan, .static yX3_isFan, .initialized RX3, .code yX3_isFan cX3_isFan 1 (some .boolean), .methodLink RX3 63 yX3_isIn, .static yX3_isIn, .code yX3_isIn cX3_isIn 3 (some .boolean), .methodLink RX3 71 yX3_goes, .instanceMethod yX3_goes, .selects RX3 yX3_goes yX3_goes, .code yX3_goes cX3_goes 2 (some .boolean), .fieldLink RX3 60 "ColdaisleModel" "thrown" "I", .methodLink RX3 77 yX3_running, .instanceMethod yX3_running, .selects RX3 yX3_running yX3_running, .code yX3_running cX3_running 3 (some .int)] ++ wsX30)
def wsX3_repair : List Cond := .code yX3_repair cX3_repair 2 (some .int) :: ([.fieldLink RX3 47 "ColdaisleModel" "hasFailed" "[Z", .methodLink RX3 74 yX3_isFan, .static yX3_isFan, .initialized RX3, .code yX3_isFan cX3_isFan 1 (some .boolean), .methodLink RX3 63 yX3_isIn, .static yX3_isIn, .code yX3_isIn cX3_isIn 3 (some .boolean), .methodLink RX3 71 yX3_goes, .instanceMethod yX3_goes, .selects RX3 yX3_goes yX3_goes, .code yX3_goes cX3_goes 2 (some .boolean), .fieldLink RX3 60 "ColdaisleModel" "thrown" "I", .methodLink RX3 77 yX3_running, .instanceMethod yX3_running, .selects RX3 yX3_running yX3_running, .code yX3_running cX3_running 3 (some .int)] ++ wsX30)
def wsX3_commandAt : List Cond := .code yX3_commandAt cX3_commandAt 3 (some .int) :: ([])
def wsX3_command : List Cond := .code yX3_command cX3_command 2 (some .int) :: ([.fieldLink RX3 35 "ColdaisleModel" "clocks" "[I", .fieldLink RX3 54 "ColdaisleModel" "commands" "[I", .methodLink RX3 74 yX3_isFan, .static yX3_isFan, .initialized RX3, .code yX3_isFan cX3_isFan 1 (some .boolean), .methodLink RX3 63 yX3_isIn, .static yX3_isIn, .code yX3_isIn cX3_isIn 3 (some .boolean), .methodLink RX3 71 yX3_goes, .instanceMethod yX3_goes, .selects RX3 yX3_goes yX3_goes, .code yX3_goes cX3_goes 2 (some .boolean), .fieldLink RX3 60 "ColdaisleModel" "thrown" "I", .methodLink RX3 81 yX3_commandAt, .static yX3_commandAt, .code yX3_commandAt cX3_commandAt 3 (some .int)] ++ wsX30)
def wsX3_speed : List Cond := .code yX3_speed cX3_speed 2 (some .int) :: ([.fieldLink RX3 51 "ColdaisleModel" "speeds" "[I", .methodLink RX3 74 yX3_isFan, .static yX3_isFan, .initialized RX3, .code yX3_isFan cX3_isFan 1 (some .boolean), .methodLink RX3 63 yX3_isIn, .static yX3_isIn, .code yX3_isIn cX3_isIn 3 (some .boolean), .methodLink RX3 71 yX3_goes, .instanceMethod yX3_goes, .selects RX3 yX3_goes yX3_goes, .code yX3_goes cX3_goes 2 (some .boolean), .fieldLink RX3 60 "ColdaisleModel" "thrown" "I"] ++ wsX30)
def wsX3_demands : List Cond := .code yX3_demands cX3_demands 9 none :: ([.fieldLink RX3 38 "ColdaisleModel" "temperatures" "[I", .fieldLink RX3 13 "ColdaisleModel" "setpoints" "[I", .fieldLink RX3 41 "ColdaisleModel" "sums" "[I", .fieldLink RX3 19 "ColdaisleModel" "proportional" "I", .fieldLink RX3 23 "ColdaisleModel" "integral" "I", .fieldLink RX3 16 "ColdaisleModel" "effects" "[I", .fieldLink RX3 47 "ColdaisleModel" "hasFailed" "[Z", .fieldLink RX3 44 "ColdaisleModel" "demands" "[I", .methodLink RX3 85 yX3_held, .static yX3_held, .initialized RX3, .code yX3_held cX3_held 3 (some .int), .methodLink RX3 88 yX3_part, .static yX3_part, .code yX3_part cX3_part 2 (some .int)] ++ wsX30)
def wsX3_commands : List Cond := .code yX3_commands cX3_commands 6 none :: ([.fieldLink RX3 16 "ColdaisleModel" "effects" "[I", .fieldLink RX3 44 "ColdaisleModel" "demands" "[I", .fieldLink RX3 54 "ColdaisleModel" "commands" "[I", .fieldLink RX3 35 "ColdaisleModel" "clocks" "[I", .methodLink RX3 81 yX3_commandAt, .static yX3_commandAt, .initialized RX3, .code yX3_commandAt cX3_commandAt 3 (some .int)] ++ wsX30)
def wsX3_speeds : List Cond := .code yX3_speeds cX3_speeds 5 none :: ([.fieldLink RX3 35 "ColdaisleModel" "clocks" "[I", .fieldLink RX3 32 "ColdaisleModel" "delay" "I", .fieldLink RX3 47 "ColdaisleModel" "hasFailed" "[Z", .fieldLink RX3 51 "ColdaisleModel" "speeds" "[I", .fieldLink RX3 54 "ColdaisleModel" "commands" "[I", .methodLink RX3 81 yX3_commandAt, .static yX3_commandAt, .initialized RX3, .code yX3_commandAt cX3_commandAt 3 (some .int)] ++ wsX30)
def wsX3_heats : List Cond := .code yX3_heats cX3_heats 6 none :: ([.fieldLink RX3 16 "ColdaisleModel" "effects" "[I", .fieldLink RX3 51 "ColdaisleModel" "speeds" "[I", .fieldLink RX3 38 "ColdaisleModel" "temperatures" "[I", .fieldLink RX3 7 "ColdaisleModel" "loads" "[I", .fieldLink RX3 26 "ColdaisleModel" "ambient" "I", .methodLink RX3 88 yX3_part, .static yX3_part, .initialized RX3, .code yX3_part cX3_part 2 (some .int)] ++ wsX30)
def wsX3_minute_r1 : List Cond := [Cond.fieldLink RX3 35 "ColdaisleModel" "clocks" "[I", Cond.methodLink RX3 92 yX3_demands, Cond.instanceMethod yX3_demands, Cond.selects RX3 yX3_demands yX3_demands, Cond.initialized RX3, Cond.code yX3_demands cX3_demands 9 none, Cond.fieldLink RX3 38 "ColdaisleModel" "temperatures" "[I", Cond.fieldLink RX3 13 "ColdaisleModel" "setpoints" "[I", Cond.fieldLink RX3 41 "ColdaisleModel" "sums" "[I", Cond.fieldLink RX3 19 "ColdaisleModel" "proportional" "I", Cond.fieldLink RX3 23 "ColdaisleModel" "integral" "I", Cond.fieldLink RX3 16 "ColdaisleModel" "effects" "[I", Cond.fieldLink RX3 47 "ColdaisleModel" "hasFailed" "[Z", Cond.fieldLink RX3 44 "ColdaisleModel" "demands" "[I", Cond.methodLink RX3 85 yX3_held, Cond.static yX3_held, Cond.code yX3_held cX3_held 3 (some .int), Cond.methodLink RX3 88 yX3_part, Cond.static yX3_part, Cond.code yX3_part cX3_part 2 (some .int), Cond.methodLink RX3 95 yX3_commands, Cond.instanceMethod yX3_commands, Cond.selects RX3 yX3_commands yX3_commands, Cond.code yX3_commands cX3_commands 6 none]
def wsX3_minute_r2 : List Cond := [Cond.fieldLink RX3 54 "ColdaisleModel" "commands" "[I", Cond.methodLink RX3 81 yX3_commandAt, Cond.static yX3_commandAt, Cond.code yX3_commandAt cX3_commandAt 3 (some .int), Cond.methodLink RX3 97 yX3_speeds, Cond.instanceMethod yX3_speeds, Cond.selects RX3 yX3_speeds yX3_speeds, Cond.code yX3_speeds cX3_speeds 5 none, Cond.fieldLink RX3 32 "ColdaisleModel" "delay" "I", Cond.fieldLink RX3 51 "ColdaisleModel" "speeds" "[I", Cond.methodLink RX3 99 yX3_heats, Cond.instanceMethod yX3_heats, Cond.selects RX3 yX3_heats yX3_heats, Cond.code yX3_heats cX3_heats 6 none, Cond.fieldLink RX3 7 "ColdaisleModel" "loads" "[I", Cond.fieldLink RX3 26 "ColdaisleModel" "ambient" "I"]
def wsX3_minute : List Cond := .code yX3_minute cX3_minute 3 none :: ((wsX3_minute_r1 ++ wsX3_minute_r2) ++ wsX30)
def wsX3_pass_r1 : List Cond := [Cond.fieldLink RX3 35 "ColdaisleModel" "clocks" "[I", Cond.constant RX3 102 (100000), Cond.fieldLink RX3 57 "ColdaisleModel" "hots" "[I", Cond.fieldLink RX3 38 "ColdaisleModel" "temperatures" "[I", Cond.fieldLink RX3 29 "ColdaisleModel" "limit" "I", Cond.methodLink RX3 63 yX3_isIn, Cond.static yX3_isIn, Cond.initialized RX3, Cond.code yX3_isIn cX3_isIn 3 (some .boolean), Cond.methodLink RX3 71 yX3_goes, Cond.instanceMethod yX3_goes, Cond.selects RX3 yX3_goes yX3_goes, Cond.code yX3_goes cX3_goes 2 (some .boolean), Cond.fieldLink RX3 60 "ColdaisleModel" "thrown" "I", Cond.methodLink RX3 103 yX3_minute, Cond.instanceMethod yX3_minute, Cond.selects RX3 yX3_minute yX3_minute, Cond.code yX3_minute cX3_minute 3 none, Cond.methodLink RX3 92 yX3_demands, Cond.instanceMethod yX3_demands, Cond.selects RX3 yX3_demands yX3_demands, Cond.code yX3_demands cX3_demands 9 none, Cond.fieldLink RX3 13 "ColdaisleModel" "setpoints" "[I", Cond.fieldLink RX3 41 "ColdaisleModel" "sums" "[I"]
def wsX3_pass_r2 : List Cond := [Cond.fieldLink RX3 19 "ColdaisleModel" "proportional" "I", Cond.fieldLink RX3 23 "ColdaisleModel" "integral" "I", Cond.fieldLink RX3 16 "ColdaisleModel" "effects" "[I", Cond.fieldLink RX3 47 "ColdaisleModel" "hasFailed" "[Z", Cond.fieldLink RX3 44 "ColdaisleModel" "demands" "[I", Cond.methodLink RX3 85 yX3_held, Cond.static yX3_held, Cond.code yX3_held cX3_held 3 (some .int), Cond.methodLink RX3 88 yX3_part, Cond.static yX3_part, Cond.code yX3_part cX3_part 2 (some .int), Cond.methodLink RX3 95 yX3_commands, Cond.instanceMethod yX3_commands, Cond.selects RX3 yX3_commands yX3_commands, Cond.code yX3_commands cX3_commands 6 none, Cond.fieldLink RX3 54 "ColdaisleModel" "commands" "[I", Cond.methodLink RX3 81 yX3_commandAt, Cond.static yX3_commandAt, Cond.code yX3_commandAt cX3_commandAt 3 (some .int), Cond.methodLink RX3 97 yX3_speeds, Cond.instanceMethod yX3_speeds, Cond.selects RX3 yX3_speeds yX3_speeds, Cond.code yX3_speeds cX3_speeds 5 none, Cond.fieldLink RX3 32 "ColdaisleModel" "delay" "I"]
def wsX3_pass_r3 : List Cond := [Cond.fieldLink RX3 51 "ColdaisleModel" "speeds" "[I", Cond.methodLink RX3 99 yX3_heats, Cond.instanceMethod yX3_heats, Cond.selects RX3 yX3_heats yX3_heats, Cond.code yX3_heats cX3_heats 6 none, Cond.fieldLink RX3 7 "ColdaisleModel" "loads" "[I", Cond.fieldLink RX3 26 "ColdaisleModel" "ambient" "I"]
def wsX3_pass : List Cond := .code yX3_pass cX3_pass 5 (some .int) :: ((wsX3_pass_r1 ++ (wsX3_pass_r2 ++ wsX3_pass_r3)) ++ wsX30)
def wsX3_clock : List Cond := .code yX3_clock cX3_clock 1 (some .int) :: ([.fieldLink RX3 60 "ColdaisleModel" "thrown" "I", .fieldLink RX3 35 "ColdaisleModel" "clocks" "[I"] ++ wsX30)
def wsX3_asks : List Cond := .code yX3_asks cX3_asks 2 (some .boolean) :: ([.methodLink RX3 67 yX3_isZone, .static yX3_isZone, .initialized RX3, .code yX3_isZone cX3_isZone 1 (some .boolean), .methodLink RX3 63 yX3_isIn, .static yX3_isIn, .code yX3_isIn cX3_isIn 3 (some .boolean), .methodLink RX3 71 yX3_goes, .instanceMethod yX3_goes, .selects RX3 yX3_goes yX3_goes, .code yX3_goes cX3_goes 2 (some .boolean), .fieldLink RX3 60 "ColdaisleModel" "thrown" "I"] ++ wsX30)
def wsX3_temperature : List Cond := .code yX3_temperature cX3_temperature 2 (some .int) :: ([.fieldLink RX3 38 "ColdaisleModel" "temperatures" "[I", .methodLink RX3 107 yX3_asks, .instanceMethod yX3_asks, .selects RX3 yX3_asks yX3_asks, .initialized RX3, .code yX3_asks cX3_asks 2 (some .boolean), .methodLink RX3 67 yX3_isZone, .static yX3_isZone, .code yX3_isZone cX3_isZone 1 (some .boolean), .methodLink RX3 63 yX3_isIn, .static yX3_isIn, .code yX3_isIn cX3_isIn 3 (some .boolean), .methodLink RX3 71 yX3_goes, .instanceMethod yX3_goes, .selects RX3 yX3_goes yX3_goes, .code yX3_goes cX3_goes 2 (some .boolean), .fieldLink RX3 60 "ColdaisleModel" "thrown" "I"] ++ wsX30)
def wsX3_demand : List Cond := .code yX3_demand cX3_demand 2 (some .int) :: ([.fieldLink RX3 44 "ColdaisleModel" "demands" "[I", .methodLink RX3 107 yX3_asks, .instanceMethod yX3_asks, .selects RX3 yX3_asks yX3_asks, .initialized RX3, .code yX3_asks cX3_asks 2 (some .boolean), .methodLink RX3 67 yX3_isZone, .static yX3_isZone, .code yX3_isZone cX3_isZone 1 (some .boolean), .methodLink RX3 63 yX3_isIn, .static yX3_isIn, .code yX3_isIn cX3_isIn 3 (some .boolean), .methodLink RX3 71 yX3_goes, .instanceMethod yX3_goes, .selects RX3 yX3_goes yX3_goes, .code yX3_goes cX3_goes 2 (some .boolean), .fieldLink RX3 60 "ColdaisleModel" "thrown" "I"] ++ wsX30)
def wsX3_errors : List Cond := .code yX3_errors cX3_errors 2 (some .int) :: ([.fieldLink RX3 41 "ColdaisleModel" "sums" "[I", .methodLink RX3 107 yX3_asks, .instanceMethod yX3_asks, .selects RX3 yX3_asks yX3_asks, .initialized RX3, .code yX3_asks cX3_asks 2 (some .boolean), .methodLink RX3 67 yX3_isZone, .static yX3_isZone, .code yX3_isZone cX3_isZone 1 (some .boolean), .methodLink RX3 63 yX3_isIn, .static yX3_isIn, .code yX3_isIn cX3_isIn 3 (some .boolean), .methodLink RX3 71 yX3_goes, .instanceMethod yX3_goes, .selects RX3 yX3_goes yX3_goes, .code yX3_goes cX3_goes 2 (some .boolean), .fieldLink RX3 60 "ColdaisleModel" "thrown" "I"] ++ wsX30)
def wsX3_hotMinutes : List Cond := .code yX3_hotMinutes cX3_hotMinutes 2 (some .int) :: ([.fieldLink RX3 57 "ColdaisleModel" "hots" "[I", .methodLink RX3 107 yX3_asks, .instanceMethod yX3_asks, .selects RX3 yX3_asks yX3_asks, .initialized RX3, .code yX3_asks cX3_asks 2 (some .boolean), .methodLink RX3 67 yX3_isZone, .static yX3_isZone, .code yX3_isZone cX3_isZone 1 (some .boolean), .methodLink RX3 63 yX3_isIn, .static yX3_isIn, .code yX3_isIn cX3_isIn 3 (some .boolean), .methodLink RX3 71 yX3_goes, .instanceMethod yX3_goes, .selects RX3 yX3_goes yX3_goes, .code yX3_goes cX3_goes 2 (some .boolean), .fieldLink RX3 60 "ColdaisleModel" "thrown" "I"] ++ wsX30)
def wsX3_hottest : List Cond := .code yX3_hottest cX3_hottest 3 (some .int) :: ([.fieldLink RX3 60 "ColdaisleModel" "thrown" "I", .fieldLink RX3 38 "ColdaisleModel" "temperatures" "[I"] ++ wsX30)
def wsX3_copies : List Cond := .code yX3_copies cX3_copies 2 none :: ([.fieldLink RX3 35 "ColdaisleModel" "clocks" "[I", .fieldLink RX3 38 "ColdaisleModel" "temperatures" "[I", .fieldLink RX3 41 "ColdaisleModel" "sums" "[I", .fieldLink RX3 47 "ColdaisleModel" "hasFailed" "[Z", .fieldLink RX3 54 "ColdaisleModel" "commands" "[I"] ++ wsX30)
def wsX3_greatest_r1 : List Cond := [Cond.fieldLink RX3 47 "ColdaisleModel" "hasFailed" "[Z", Cond.fieldLink RX3 38 "ColdaisleModel" "temperatures" "[I", Cond.methodLink RX3 110 yX3_copies, Cond.instanceMethod yX3_copies, Cond.selects RX3 yX3_copies yX3_copies, Cond.initialized RX3, Cond.code yX3_copies cX3_copies 2 none, Cond.fieldLink RX3 35 "ColdaisleModel" "clocks" "[I", Cond.fieldLink RX3 41 "ColdaisleModel" "sums" "[I", Cond.fieldLink RX3 54 "ColdaisleModel" "commands" "[I", Cond.methodLink RX3 103 yX3_minute, Cond.instanceMethod yX3_minute, Cond.selects RX3 yX3_minute yX3_minute, Cond.code yX3_minute cX3_minute 3 none, Cond.methodLink RX3 92 yX3_demands, Cond.instanceMethod yX3_demands, Cond.selects RX3 yX3_demands yX3_demands, Cond.code yX3_demands cX3_demands 9 none, Cond.fieldLink RX3 13 "ColdaisleModel" "setpoints" "[I", Cond.fieldLink RX3 19 "ColdaisleModel" "proportional" "I", Cond.fieldLink RX3 23 "ColdaisleModel" "integral" "I", Cond.fieldLink RX3 16 "ColdaisleModel" "effects" "[I", Cond.fieldLink RX3 44 "ColdaisleModel" "demands" "[I", Cond.methodLink RX3 85 yX3_held]
def wsX3_greatest_r2 : List Cond := [Cond.static yX3_held, Cond.code yX3_held cX3_held 3 (some .int), Cond.methodLink RX3 88 yX3_part, Cond.static yX3_part, Cond.code yX3_part cX3_part 2 (some .int), Cond.methodLink RX3 95 yX3_commands, Cond.instanceMethod yX3_commands, Cond.selects RX3 yX3_commands yX3_commands, Cond.code yX3_commands cX3_commands 6 none, Cond.methodLink RX3 81 yX3_commandAt, Cond.static yX3_commandAt, Cond.code yX3_commandAt cX3_commandAt 3 (some .int), Cond.methodLink RX3 97 yX3_speeds, Cond.instanceMethod yX3_speeds, Cond.selects RX3 yX3_speeds yX3_speeds, Cond.code yX3_speeds cX3_speeds 5 none, Cond.fieldLink RX3 32 "ColdaisleModel" "delay" "I", Cond.fieldLink RX3 51 "ColdaisleModel" "speeds" "[I", Cond.methodLink RX3 99 yX3_heats, Cond.instanceMethod yX3_heats, Cond.selects RX3 yX3_heats yX3_heats, Cond.code yX3_heats cX3_heats 6 none, Cond.fieldLink RX3 7 "ColdaisleModel" "loads" "[I", Cond.fieldLink RX3 26 "ColdaisleModel" "ambient" "I"]
def wsX3_greatest : List Cond := .code yX3_greatest cX3_greatest 6 (some .int) :: ((wsX3_greatest_r1 ++ wsX3_greatest_r2) ++ wsX30)
def wsX3_asksIf : List Cond := .code yX3_asksIf cX3_asksIf 3 (some .boolean) :: ([.methodLink RX3 67 yX3_isZone, .static yX3_isZone, .initialized RX3, .code yX3_isZone cX3_isZone 1 (some .boolean), .methodLink RX3 63 yX3_isIn, .static yX3_isIn, .code yX3_isIn cX3_isIn 3 (some .boolean), .methodLink RX3 71 yX3_goes, .instanceMethod yX3_goes, .selects RX3 yX3_goes yX3_goes, .code yX3_goes cX3_goes 2 (some .boolean), .fieldLink RX3 60 "ColdaisleModel" "thrown" "I"] ++ wsX30)
def wsX3_expected_r1 : List Cond := [Cond.methodLink RX3 113 yX3_asksIf, Cond.instanceMethod yX3_asksIf, Cond.selects RX3 yX3_asksIf yX3_asksIf, Cond.initialized RX3, Cond.code yX3_asksIf cX3_asksIf 3 (some .boolean), Cond.methodLink RX3 67 yX3_isZone, Cond.static yX3_isZone, Cond.code yX3_isZone cX3_isZone 1 (some .boolean), Cond.methodLink RX3 63 yX3_isIn, Cond.static yX3_isIn, Cond.code yX3_isIn cX3_isIn 3 (some .boolean), Cond.methodLink RX3 71 yX3_goes, Cond.instanceMethod yX3_goes, Cond.selects RX3 yX3_goes yX3_goes, Cond.code yX3_goes cX3_goes 2 (some .boolean), Cond.fieldLink RX3 60 "ColdaisleModel" "thrown" "I", Cond.methodLink RX3 117 yX3_greatest, Cond.instanceMethod yX3_greatest, Cond.selects RX3 yX3_greatest yX3_greatest, Cond.code yX3_greatest cX3_greatest 6 (some .int), Cond.fieldLink RX3 47 "ColdaisleModel" "hasFailed" "[Z", Cond.fieldLink RX3 38 "ColdaisleModel" "temperatures" "[I", Cond.methodLink RX3 110 yX3_copies, Cond.instanceMethod yX3_copies]
def wsX3_expected_r2 : List Cond := [Cond.selects RX3 yX3_copies yX3_copies, Cond.code yX3_copies cX3_copies 2 none, Cond.fieldLink RX3 35 "ColdaisleModel" "clocks" "[I", Cond.fieldLink RX3 41 "ColdaisleModel" "sums" "[I", Cond.fieldLink RX3 54 "ColdaisleModel" "commands" "[I", Cond.methodLink RX3 103 yX3_minute, Cond.instanceMethod yX3_minute, Cond.selects RX3 yX3_minute yX3_minute, Cond.code yX3_minute cX3_minute 3 none, Cond.methodLink RX3 92 yX3_demands, Cond.instanceMethod yX3_demands, Cond.selects RX3 yX3_demands yX3_demands, Cond.code yX3_demands cX3_demands 9 none, Cond.fieldLink RX3 13 "ColdaisleModel" "setpoints" "[I", Cond.fieldLink RX3 19 "ColdaisleModel" "proportional" "I", Cond.fieldLink RX3 23 "ColdaisleModel" "integral" "I", Cond.fieldLink RX3 16 "ColdaisleModel" "effects" "[I", Cond.fieldLink RX3 44 "ColdaisleModel" "demands" "[I", Cond.methodLink RX3 85 yX3_held, Cond.static yX3_held, Cond.code yX3_held cX3_held 3 (some .int), Cond.methodLink RX3 88 yX3_part, Cond.static yX3_part, Cond.code yX3_part cX3_part 2 (some .int)]
def wsX3_expected_r3 : List Cond := [Cond.methodLink RX3 95 yX3_commands, Cond.instanceMethod yX3_commands, Cond.selects RX3 yX3_commands yX3_commands, Cond.code yX3_commands cX3_commands 6 none, Cond.methodLink RX3 81 yX3_commandAt, Cond.static yX3_commandAt, Cond.code yX3_commandAt cX3_commandAt 3 (some .int), Cond.methodLink RX3 97 yX3_speeds, Cond.instanceMethod yX3_speeds, Cond.selects RX3 yX3_speeds yX3_speeds, Cond.code yX3_speeds cX3_speeds 5 none, Cond.fieldLink RX3 32 "ColdaisleModel" "delay" "I", Cond.fieldLink RX3 51 "ColdaisleModel" "speeds" "[I", Cond.methodLink RX3 99 yX3_heats, Cond.instanceMethod yX3_heats, Cond.selects RX3 yX3_heats yX3_heats, Cond.code yX3_heats cX3_heats 6 none, Cond.fieldLink RX3 7 "ColdaisleModel" "loads" "[I", Cond.fieldLink RX3 26 "ColdaisleModel" "ambient" "I"]
def wsX3_expected : List Cond := .code yX3_expected cX3_expected 3 (some .int) :: ((wsX3_expected_r1 ++ (wsX3_expected_r2 ++ wsX3_expected_r3)) ++ wsX30)
def wsX3_worst_r1 : List Cond := [Cond.fieldLink RX3 47 "ColdaisleModel" "hasFailed" "[Z", Cond.methodLink RX3 117 yX3_greatest, Cond.instanceMethod yX3_greatest, Cond.selects RX3 yX3_greatest yX3_greatest, Cond.initialized RX3, Cond.code yX3_greatest cX3_greatest 6 (some .int), Cond.fieldLink RX3 38 "ColdaisleModel" "temperatures" "[I", Cond.methodLink RX3 110 yX3_copies, Cond.instanceMethod yX3_copies, Cond.selects RX3 yX3_copies yX3_copies, Cond.code yX3_copies cX3_copies 2 none, Cond.fieldLink RX3 35 "ColdaisleModel" "clocks" "[I", Cond.fieldLink RX3 41 "ColdaisleModel" "sums" "[I", Cond.fieldLink RX3 54 "ColdaisleModel" "commands" "[I", Cond.methodLink RX3 103 yX3_minute, Cond.instanceMethod yX3_minute, Cond.selects RX3 yX3_minute yX3_minute, Cond.code yX3_minute cX3_minute 3 none, Cond.methodLink RX3 92 yX3_demands, Cond.instanceMethod yX3_demands, Cond.selects RX3 yX3_demands yX3_demands, Cond.code yX3_demands cX3_demands 9 none, Cond.fieldLink RX3 13 "ColdaisleModel" "setpoints" "[I", Cond.fieldLink RX3 19 "ColdaisleModel" "proportional" "I"]
def wsX3_worst_r2 : List Cond := [Cond.fieldLink RX3 23 "ColdaisleModel" "integral" "I", Cond.fieldLink RX3 16 "ColdaisleModel" "effects" "[I", Cond.fieldLink RX3 44 "ColdaisleModel" "demands" "[I", Cond.methodLink RX3 85 yX3_held, Cond.static yX3_held, Cond.code yX3_held cX3_held 3 (some .int), Cond.methodLink RX3 88 yX3_part, Cond.static yX3_part, Cond.code yX3_part cX3_part 2 (some .int), Cond.methodLink RX3 95 yX3_commands, Cond.instanceMethod yX3_commands, Cond.selects RX3 yX3_commands yX3_commands, Cond.code yX3_commands cX3_commands 6 none, Cond.methodLink RX3 81 yX3_commandAt, Cond.static yX3_commandAt, Cond.code yX3_commandAt cX3_commandAt 3 (some .int), Cond.methodLink RX3 97 yX3_speeds, Cond.instanceMethod yX3_speeds, Cond.selects RX3 yX3_speeds yX3_speeds, Cond.code yX3_speeds cX3_speeds 5 none, Cond.fieldLink RX3 32 "ColdaisleModel" "delay" "I", Cond.fieldLink RX3 51 "ColdaisleModel" "speeds" "[I", Cond.methodLink RX3 99 yX3_heats, Cond.instanceMethod yX3_heats]
def wsX3_worst_r3 : List Cond := [Cond.selects RX3 yX3_heats yX3_heats, Cond.code yX3_heats cX3_heats 6 none, Cond.fieldLink RX3 7 "ColdaisleModel" "loads" "[I", Cond.fieldLink RX3 26 "ColdaisleModel" "ambient" "I"]
def wsX3_worst : List Cond := .code yX3_worst cX3_worst 8 (some .int) :: ((wsX3_worst_r1 ++ (wsX3_worst_r2 ++ wsX3_worst_r3)) ++ wsX30)
def wsX3_critical_r1 : List Cond := [Cond.methodLink RX3 113 yX3_asksIf, Cond.instanceMethod yX3_asksIf, Cond.selects RX3 yX3_asksIf yX3_asksIf, Cond.initialized RX3, Cond.code yX3_asksIf cX3_asksIf 3 (some .boolean), Cond.methodLink RX3 67 yX3_isZone, Cond.static yX3_isZone, Cond.code yX3_isZone cX3_isZone 1 (some .boolean), Cond.methodLink RX3 63 yX3_isIn, Cond.static yX3_isIn, Cond.code yX3_isIn cX3_isIn 3 (some .boolean), Cond.methodLink RX3 71 yX3_goes, Cond.instanceMethod yX3_goes, Cond.selects RX3 yX3_goes yX3_goes, Cond.code yX3_goes cX3_goes 2 (some .boolean), Cond.fieldLink RX3 60 "ColdaisleModel" "thrown" "I", Cond.methodLink RX3 120 yX3_worst, Cond.instanceMethod yX3_worst, Cond.selects RX3 yX3_worst yX3_worst, Cond.code yX3_worst cX3_worst 8 (some .int), Cond.fieldLink RX3 47 "ColdaisleModel" "hasFailed" "[Z", Cond.methodLink RX3 117 yX3_greatest, Cond.instanceMethod yX3_greatest, Cond.selects RX3 yX3_greatest yX3_greatest]
def wsX3_critical_r2 : List Cond := [Cond.code yX3_greatest cX3_greatest 6 (some .int), Cond.fieldLink RX3 38 "ColdaisleModel" "temperatures" "[I", Cond.methodLink RX3 110 yX3_copies, Cond.instanceMethod yX3_copies, Cond.selects RX3 yX3_copies yX3_copies, Cond.code yX3_copies cX3_copies 2 none, Cond.fieldLink RX3 35 "ColdaisleModel" "clocks" "[I", Cond.fieldLink RX3 41 "ColdaisleModel" "sums" "[I", Cond.fieldLink RX3 54 "ColdaisleModel" "commands" "[I", Cond.methodLink RX3 103 yX3_minute, Cond.instanceMethod yX3_minute, Cond.selects RX3 yX3_minute yX3_minute, Cond.code yX3_minute cX3_minute 3 none, Cond.methodLink RX3 92 yX3_demands, Cond.instanceMethod yX3_demands, Cond.selects RX3 yX3_demands yX3_demands, Cond.code yX3_demands cX3_demands 9 none, Cond.fieldLink RX3 13 "ColdaisleModel" "setpoints" "[I", Cond.fieldLink RX3 19 "ColdaisleModel" "proportional" "I", Cond.fieldLink RX3 23 "ColdaisleModel" "integral" "I", Cond.fieldLink RX3 16 "ColdaisleModel" "effects" "[I", Cond.fieldLink RX3 44 "ColdaisleModel" "demands" "[I", Cond.methodLink RX3 85 yX3_held, Cond.static yX3_held]
def wsX3_critical_r3 : List Cond := [Cond.code yX3_held cX3_held 3 (some .int), Cond.methodLink RX3 88 yX3_part, Cond.static yX3_part, Cond.code yX3_part cX3_part 2 (some .int), Cond.methodLink RX3 95 yX3_commands, Cond.instanceMethod yX3_commands, Cond.selects RX3 yX3_commands yX3_commands, Cond.code yX3_commands cX3_commands 6 none, Cond.methodLink RX3 81 yX3_commandAt, Cond.static yX3_commandAt, Cond.code yX3_commandAt cX3_commandAt 3 (some .int), Cond.methodLink RX3 97 yX3_speeds, Cond.instanceMethod yX3_speeds, Cond.selects RX3 yX3_speeds yX3_speeds, Cond.code yX3_speeds cX3_speeds 5 none, Cond.fieldLink RX3 32 "ColdaisleModel" "delay" "I", Cond.fieldLink RX3 51 "ColdaisleModel" "speeds" "[I", Cond.methodLink RX3 99 yX3_heats, Cond.instanceMethod yX3_heats, Cond.selects RX3 yX3_heats yX3_heats, Cond.code yX3_heats cX3_heats 6 none, Cond.fieldLink RX3 7 "ColdaisleModel" "loads" "[I", Cond.fieldLink RX3 26 "ColdaisleModel" "ambient" "I"]
def wsX3_critical : List Cond := .code yX3_critical cX3_critical 3 (some .int) :: ((wsX3_critical_r1 ++ (wsX3_critical_r2 ++ wsX3_critical_r3)) ++ wsX30)
def wsX3_margin_r1 : List Cond := [Cond.fieldLink RX3 29 "ColdaisleModel" "limit" "I", Cond.methodLink RX3 113 yX3_asksIf, Cond.instanceMethod yX3_asksIf, Cond.selects RX3 yX3_asksIf yX3_asksIf, Cond.initialized RX3, Cond.code yX3_asksIf cX3_asksIf 3 (some .boolean), Cond.methodLink RX3 67 yX3_isZone, Cond.static yX3_isZone, Cond.code yX3_isZone cX3_isZone 1 (some .boolean), Cond.methodLink RX3 63 yX3_isIn, Cond.static yX3_isIn, Cond.code yX3_isIn cX3_isIn 3 (some .boolean), Cond.methodLink RX3 71 yX3_goes, Cond.instanceMethod yX3_goes, Cond.selects RX3 yX3_goes yX3_goes, Cond.code yX3_goes cX3_goes 2 (some .boolean), Cond.fieldLink RX3 60 "ColdaisleModel" "thrown" "I", Cond.methodLink RX3 120 yX3_worst, Cond.instanceMethod yX3_worst, Cond.selects RX3 yX3_worst yX3_worst, Cond.code yX3_worst cX3_worst 8 (some .int), Cond.fieldLink RX3 47 "ColdaisleModel" "hasFailed" "[Z", Cond.methodLink RX3 117 yX3_greatest, Cond.instanceMethod yX3_greatest]
def wsX3_margin_r2 : List Cond := [Cond.selects RX3 yX3_greatest yX3_greatest, Cond.code yX3_greatest cX3_greatest 6 (some .int), Cond.fieldLink RX3 38 "ColdaisleModel" "temperatures" "[I", Cond.methodLink RX3 110 yX3_copies, Cond.instanceMethod yX3_copies, Cond.selects RX3 yX3_copies yX3_copies, Cond.code yX3_copies cX3_copies 2 none, Cond.fieldLink RX3 35 "ColdaisleModel" "clocks" "[I", Cond.fieldLink RX3 41 "ColdaisleModel" "sums" "[I", Cond.fieldLink RX3 54 "ColdaisleModel" "commands" "[I", Cond.methodLink RX3 103 yX3_minute, Cond.instanceMethod yX3_minute, Cond.selects RX3 yX3_minute yX3_minute, Cond.code yX3_minute cX3_minute 3 none, Cond.methodLink RX3 92 yX3_demands, Cond.instanceMethod yX3_demands, Cond.selects RX3 yX3_demands yX3_demands, Cond.code yX3_demands cX3_demands 9 none, Cond.fieldLink RX3 13 "ColdaisleModel" "setpoints" "[I", Cond.fieldLink RX3 19 "ColdaisleModel" "proportional" "I", Cond.fieldLink RX3 23 "ColdaisleModel" "integral" "I", Cond.fieldLink RX3 16 "ColdaisleModel" "effects" "[I", Cond.fieldLink RX3 44 "ColdaisleModel" "demands" "[I", Cond.methodLink RX3 85 yX3_held]
def wsX3_margin_r3 : List Cond := [Cond.static yX3_held, Cond.code yX3_held cX3_held 3 (some .int), Cond.methodLink RX3 88 yX3_part, Cond.static yX3_part, Cond.code yX3_part cX3_part 2 (some .int), Cond.methodLink RX3 95 yX3_commands, Cond.instanceMethod yX3_commands, Cond.selects RX3 yX3_commands yX3_commands, Cond.code yX3_commands cX3_commands 6 none, Cond.methodLink RX3 81 yX3_commandAt, Cond.static yX3_commandAt, Cond.code yX3_commandAt cX3_commandAt 3 (some .int), Cond.methodLink RX3 97 yX3_speeds, Cond.instanceMethod yX3_speeds, Cond.selects RX3 yX3_speeds yX3_speeds, Cond.code yX3_speeds cX3_speeds 5 none, Cond.fieldLink RX3 32 "ColdaisleModel" "delay" "I", Cond.fieldLink RX3 51 "ColdaisleModel" "speeds" "[I", Cond.methodLink RX3 99 yX3_heats, Cond.instanceMethod yX3_heats, Cond.selects RX3 yX3_heats yX3_heats, Cond.code yX3_heats cX3_heats 6 none, Cond.fieldLink RX3 7 "ColdaisleModel" "loads" "[I", Cond.fieldLink RX3 26 "ColdaisleModel" "ambient" "I"]
def wsX3_margin : List Cond := .code yX3_margin cX3_margin 3 (some .int) :: ((wsX3_margin_r1 ++ (wsX3_margin_r2 ++ wsX3_margin_r3)) ++ wsX30)
def wsJ9_max_7cf53 : List Cond := .code yJ9_max_7cf53 cJ9_max_7cf53 2 (some .int) :: ([])
def wsJ9_min_7cf53 : List Cond := .code yJ9_min_7cf53 cJ9_min_7cf53 2 (some .int) :: ([])
theorem dJ9_floorDiv_7cf53_0 : decode cJ9_floorDiv_7cf53 0 = .ok (.iload_n 0, 1) := by decide +kernel
theorem dJ9_floorDiv_7cf53_1 : decode cJ9_floorDiv_7cf53 1 = .ok (.iload_n 1, 1) := by decide +kernel
theorem dJ9_floorDiv_7cf53_2 : decode cJ9_floorDiv_7cf53 2 = .ok (.idiv, 1) := by decide +kernel
theorem dJ9_floorDiv_7cf53_3 : decode cJ9_floorDiv_7cf53 3 = .ok (.istore_n 2, 1) := by decide +kernel
theorem dJ9_floorDiv_7cf53_4 : decode cJ9_floorDiv_7cf53 4 = .ok (.iload_n 0, 1) := by decide +kernel
theorem dJ9_floorDiv_7cf53_5 : decode cJ9_floorDiv_7cf53 5 = .ok (.iload_n 1, 1) := by decide +kernel
theorem dJ9_floorDiv_7cf53_6 : decode cJ9_floorDiv_7cf53 6 = .ok (.ixor, 1) := by decide +kernel
theorem dJ9_floorDiv_7cf53_7 : decode cJ9_floorDiv_7cf53 7 = .ok (.ifCond .ge 14, 3) := by decide +kernel
theorem dJ9_floorDiv_7cf53_10 : decode cJ9_floorDiv_7cf53 10 = .ok (.iload_n 2, 1) := by decide +kernel
theorem dJ9_floorDiv_7cf53_11 : decode cJ9_floorDiv_7cf53 11 = .ok (.iload_n 1, 1) := by decide +kernel
theorem dJ9_floorDiv_7cf53_12 : decode cJ9_floorDiv_7cf53 12 = .ok (.imul, 1) := by decide +kernel
theorem dJ9_floorDiv_7cf53_13 : decode cJ9_floorDiv_7cf53 13 = .ok (.iload_n 0, 1) := by decide +kernel
theorem dJ9_floorDiv_7cf53_14 : decode cJ9_floorDiv_7cf53 14 = .ok (.if_icmp .eq 7, 3) := by decide +kernel
theorem dJ9_floorDiv_7cf53_17 : decode cJ9_floorDiv_7cf53 17 = .ok (.iload_n 2, 1) := by decide +kernel
theorem dJ9_floorDiv_7cf53_18 : decode cJ9_floorDiv_7cf53 18 = .ok (.iconst 1, 1) := by decide +kernel
theorem dJ9_floorDiv_7cf53_19 : decode cJ9_floorDiv_7cf53 19 = .ok (.isub, 1) := by decide +kernel
theorem dJ9_floorDiv_7cf53_20 : decode cJ9_floorDiv_7cf53 20 = .ok (.ireturn, 1) := by decide +kernel
theorem dJ9_floorDiv_7cf53_21 : decode cJ9_floorDiv_7cf53 21 = .ok (.iload_n 2, 1) := by decide +kernel
theorem dJ9_floorDiv_7cf53_22 : decode cJ9_floorDiv_7cf53 22 = .ok (.ireturn, 1) := by decide +kernel
theorem dJ9_floorMod_7cf53_0 : decode cJ9_floorMod_7cf53 0 = .ok (.iload_n 0, 1) := by decide +kernel
theorem dJ9_floorMod_7cf53_1 : decode cJ9_floorMod_7cf53 1 = .ok (.iload_n 1, 1) := by decide +kernel
theorem dJ9_floorMod_7cf53_2 : decode cJ9_floorMod_7cf53 2 = .ok (.irem, 1) := by decide +kernel
theorem dJ9_floorMod_7cf53_3 : decode cJ9_floorMod_7cf53 3 = .ok (.istore_n 2, 1) := by decide +kernel
theorem dJ9_floorMod_7cf53_4 : decode cJ9_floorMod_7cf53 4 = .ok (.iload_n 0, 1) := by decide +kernel
theorem dJ9_floorMod_7cf53_5 : decode cJ9_floorMod_7cf53 5 = .ok (.iload_n 1, 1) := by decide +kernel
theorem dJ9_floorMod_7cf53_6 : decode cJ9_floorMod_7cf53 6 = .ok (.ixor, 1) := by decide +kernel
theorem dJ9_floorMod_7cf53_7 : decode cJ9_floorMod_7cf53 7 = .ok (.ifCond .ge 11, 3) := by decide +kernel
theorem dJ9_floorMod_7cf53_10 : decode cJ9_floorMod_7cf53 10 = .ok (.iload_n 2, 1) := by decide +kernel
theorem dJ9_floorMod_7cf53_11 : decode cJ9_floorMod_7cf53 11 = .ok (.ifCond .eq 7, 3) := by decide +kernel
theorem dJ9_floorMod_7cf53_14 : decode cJ9_floorMod_7cf53 14 = .ok (.iload_n 2, 1) := by decide +kernel
theorem dJ9_floorMod_7cf53_15 : decode cJ9_floorMod_7cf53 15 = .ok (.iload_n 1, 1) := by decide +kernel
theorem dJ9_floorMod_7cf53_16 : decode cJ9_floorMod_7cf53 16 = .ok (.iadd, 1) := by decide +kernel
theorem dJ9_floorMod_7cf53_17 : decode cJ9_floorMod_7cf53 17 = .ok (.ireturn, 1) := by decide +kernel
theorem dJ9_floorMod_7cf53_18 : decode cJ9_floorMod_7cf53 18 = .ok (.iload_n 2, 1) := by decide +kernel
theorem dJ9_floorMod_7cf53_19 : decode cJ9_floorMod_7cf53 19 = .ok (.ireturn, 1) := by decide +kernel
theorem dJ9_max_7cf53_0 : decode cJ9_max_7cf53 0 = .ok (.iload_n 0, 1) := by decide +kernel
theorem dJ9_max_7cf53_1 : decode cJ9_max_7cf53 1 = .ok (.iload_n 1, 1) := by decide +kernel
theorem dJ9_max_7cf53_2 : decode cJ9_max_7cf53 2 = .ok (.if_icmp .lt 7, 3) := by decide +kernel
theorem dJ9_max_7cf53_5 : decode cJ9_max_7cf53 5 = .ok (.iload_n 0, 1) := by decide +kernel
theorem dJ9_max_7cf53_6 : decode cJ9_max_7cf53 6 = .ok (.goto 4, 3) := by decide +kernel
theorem dJ9_max_7cf53_9 : decode cJ9_max_7cf53 9 = .ok (.iload_n 1, 1) := by decide +kernel
theorem dJ9_max_7cf53_10 : decode cJ9_max_7cf53 10 = .ok (.ireturn, 1) := by decide +kernel
theorem dJ9_min_7cf53_0 : decode cJ9_min_7cf53 0 = .ok (.iload_n 0, 1) := by decide +kernel
theorem dJ9_min_7cf53_1 : decode cJ9_min_7cf53 1 = .ok (.iload_n 1, 1) := by decide +kernel
theorem dJ9_min_7cf53_2 : decode cJ9_min_7cf53 2 = .ok (.if_icmp .gt 7, 3) := by decide +kernel
theorem dJ9_min_7cf53_5 : decode cJ9_min_7cf53 5 = .ok (.iload_n 0, 1) := by decide +kernel
theorem dJ9_min_7cf53_6 : decode cJ9_min_7cf53 6 = .ok (.goto 4, 3) := by decide +kernel
theorem dJ9_min_7cf53_9 : decode cJ9_min_7cf53 9 = .ok (.iload_n 1, 1) := by decide +kernel
theorem dJ9_min_7cf53_10 : decode cJ9_min_7cf53 10 = .ok (.ireturn, 1) := by decide +kernel
abbrev vwCl : List vw_C := [(RX0, TX0, 7), (RX1, TX1, 8), (RX2, TX2, 5), (RX3, TX3, 17)]
/-! ===== END printed: names ===== -/
end
section
theorem dX0_init_0 : decode cX0_init 0 = .ok (.aload_n 0, 1) := by decide +kernel
theorem dX0_init_1 : decode cX0_init 1 = .ok (.invokespecial 3, 3) := by decide +kernel
theorem dX0_init_4 : decode cX0_init 4 = .ok (.aload_n 0, 1) := by decide +kernel
theorem dX0_init_5 : decode cX0_init 5 = .ok (.bipush 6, 2) := by decide +kernel
theorem dX0_init_7 : decode cX0_init 7 = .ok (.newarray .int, 2) := by decide +kernel
theorem dX0_init_9 : decode cX0_init 9 = .ok (.putfield 9, 3) := by decide +kernel
theorem dX0_init_12 : decode cX0_init 12 = .ok (.aload_n 0, 1) := by decide +kernel
theorem dX0_init_13 : decode cX0_init 13 = .ok (.bipush 6, 2) := by decide +kernel
theorem dX0_init_15 : decode cX0_init 15 = .ok (.newarray .int, 2) := by decide +kernel
theorem dX0_init_17 : decode cX0_init 17 = .ok (.putfield 15, 3) := by decide +kernel
theorem dX0_init_20 : decode cX0_init 20 = .ok (.aload_n 0, 1) := by decide +kernel
theorem dX0_init_21 : decode cX0_init 21 = .ok (.bipush 6, 2) := by decide +kernel
theorem dX0_init_23 : decode cX0_init 23 = .ok (.newarray .int, 2) := by decide +kernel
theorem dX0_init_25 : decode cX0_init 25 = .ok (.putfield 18, 3) := by decide +kernel
theorem dX0_init_28 : decode cX0_init 28 = .ok (.aload_n 0, 1) := by decide +kernel
theorem dX0_init_29 : decode cX0_init 29 = .ok (.bipush 8, 2) := by decide +kernel
theorem dX0_init_31 : decode cX0_init 31 = .ok (.newarray .boolean, 2) := by decide +kernel
theorem dX0_init_33 : decode cX0_init 33 = .ok (.putfield 21, 3) := by decide +kernel
theorem dX0_init_36 : decode cX0_init 36 = .ok (.aload_n 0, 1) := by decide +kernel
theorem dX0_init_37 : decode cX0_init 37 = .ok (.bipush 8, 2) := by decide +kernel
theorem dX0_init_39 : decode cX0_init 39 = .ok (.newarray .int, 2) := by decide +kernel
theorem dX0_init_41 : decode cX0_init 41 = .ok (.putfield 25, 3) := by decide +kernel
theorem dX0_init_44 : decode cX0_init 44 = .ok (.aload_n 0, 1) := by decide +kernel
theorem dX0_init_45 : decode cX0_init 45 = .ok (.bipush 9, 2) := by decide +kernel
theorem dX0_init_47 : decode cX0_init 47 = .ok (.bipush 8, 2) := by decide +kernel
theorem dX0_init_49 : decode cX0_init 49 = .ok (.multianewarray 28 2, 4) := by decide +kernel
theorem dX0_init_53 : decode cX0_init 53 = .ok (.putfield 30, 3) := by decide +kernel
theorem dX0_init_56 : decode cX0_init 56 = .ok (.aload_n 0, 1) := by decide +kernel
theorem dX0_init_57 : decode cX0_init 57 = .ok (.iconst 0, 1) := by decide +kernel
theorem dX0_init_58 : decode cX0_init 58 = .ok (.putfield 33, 3) := by decide +kernel
theorem dX0_init_61 : decode cX0_init 61 = .ok (.iconst 0, 1) := by decide +kernel
theorem dX0_init_62 : decode cX0_init 62 = .ok (.istore_n 1, 1) := by decide +kernel
theorem dX0_init_63 : decode cX0_init 63 = .ok (.iload_n 1, 1) := by decide +kernel
theorem dX0_init_64 : decode cX0_init 64 = .ok (.bipush 6, 2) := by decide +kernel
theorem dX0_init_66 : decode cX0_init 66 = .ok (.if_icmp .ge 18, 3) := by decide +kernel
theorem dX0_init_69 : decode cX0_init 69 = .ok (.aload_n 0, 1) := by decide +kernel
theorem dX0_init_70 : decode cX0_init 70 = .ok (.getfield 9, 3) := by decide +kernel
theorem dX0_init_73 : decode cX0_init 73 = .ok (.iload_n 1, 1) := by decide +kernel
theorem dX0_init_74 : decode cX0_init 74 = .ok (.sipush 2000, 3) := by decide +kernel
theorem dX0_init_77 : decode cX0_init 77 = .ok (.iastore, 1) := by decide +kernel
theorem dX0_init_78 : decode cX0_init 78 = .ok (.iinc 1 1, 3) := by decide +kernel
theorem dX0_init_81 : decode cX0_init 81 = .ok (.goto (-18), 3) := by decide +kernel
theorem dX0_init_84 : decode cX0_init 84 = .ok (.return_, 1) := by decide +kernel
theorem dX0_copyFrom_0 : decode cX0_copyFrom 0 = .ok (.aload_n 1, 1) := by decide +kernel
theorem dX0_copyFrom_1 : decode cX0_copyFrom 1 = .ok (.getfield 9, 3) := by decide +kernel
theorem dX0_copyFrom_4 : decode cX0_copyFrom 4 = .ok (.iconst 0, 1) := by decide +kernel
theorem dX0_copyFrom_5 : decode cX0_copyFrom 5 = .ok (.aload_n 0, 1) := by decide +kernel
theorem dX0_copyFrom_6 : decode cX0_copyFrom 6 = .ok (.getfield 9, 3) := by decide +kernel
theorem dX0_copyFrom_9 : decode cX0_copyFrom 9 = .ok (.iconst 0, 1) := by decide +kernel
theorem dX0_copyFrom_10 : decode cX0_copyFrom 10 = .ok (.bipush 6, 2) := by decide +kernel
theorem dX0_copyFrom_12 : decode cX0_copyFrom 12 = .ok (.invokestatic 37, 3) := by decide +kernel
theorem dX0_copyFrom_15 : decode cX0_copyFrom 15 = .ok (.aload_n 1, 1) := by decide +kernel
theorem dX0_copyFrom_16 : decode cX0_copyFrom 16 = .ok (.getfield 15, 3) := by decide +kernel
theorem dX0_copyFrom_19 : decode cX0_copyFrom 19 = .ok (.iconst 0, 1) := by decide +kernel
theorem dX0_copyFrom_20 : decode cX0_copyFrom 20 = .ok (.aload_n 0, 1) := by decide +kernel
theorem dX0_copyFrom_21 : decode cX0_copyFrom 21 = .ok (.getfield 15, 3) := by decide +kernel
theorem dX0_copyFrom_24 : decode cX0_copyFrom 24 = .ok (.iconst 0, 1) := by decide +kernel
theorem dX0_copyFrom_25 : decode cX0_copyFrom 25 = .ok (.bipush 6, 2) := by decide +kernel
theorem dX0_copyFrom_27 : decode cX0_copyFrom 27 = .ok (.invokestatic 37, 3) := by decide +kernel
theorem dX0_copyFrom_30 : decode cX0_copyFrom 30 = .ok (.aload_n 1, 1) := by decide +kernel
theorem dX0_copyFrom_31 : decode cX0_copyFrom 31 = .ok (.getfield 18, 3) := by decide +kernel
theorem dX0_copyFrom_34 : decode cX0_copyFrom 34 = .ok (.iconst 0, 1) := by decide +kernel
theorem dX0_copyFrom_35 : decode cX0_copyFrom 35 = .ok (.aload_n 0, 1) := by decide +kernel
theorem dX0_copyFrom_36 : decode cX0_copyFrom 36 = .ok (.getfield 18, 3) := by decide +kernel
theorem dX0_copyFrom_39 : decode cX0_copyFrom 39 = .ok (.iconst 0, 1) := by decide +kernel
theorem dX0_copyFrom_40 : decode cX0_copyFrom 40 = .ok (.bipush 6, 2) := by decide +kernel
theorem dX0_copyFrom_42 : decode cX0_copyFrom 42 = .ok (.invokestatic 37, 3) := by decide +kernel
theorem dX0_copyFrom_45 : decode cX0_copyFrom 45 = .ok (.aload_n 1, 1) := by decide +kernel
theorem dX0_copyFrom_46 : decode cX0_copyFrom 46 = .ok (.getfield 25, 3) := by decide +kernel
theorem dX0_copyFrom_49 : decode cX0_copyFrom 49 = .ok (.iconst 0, 1) := by decide +kernel
theorem dX0_copyFrom_50 : decode cX0_copyFrom 50 = .ok (.aload_n 0, 1) := by decide +kernel
theorem dX0_copyFrom_51 : decode cX0_copyFrom 51 = .ok (.getfield 25, 3) := by decide +kernel
theorem dX0_copyFrom_54 : decode cX0_copyFrom 54 = .ok (.iconst 0, 1) := by decide +kernel
theorem dX0_copyFrom_55 : decode cX0_copyFrom 55 = .ok (.bipush 8, 2) := by decide +kernel
theorem dX0_copyFrom_57 : decode cX0_copyFrom 57 = .ok (.invokestatic 37, 3) := by decide +kernel
theorem dX0_copyFrom_60 : decode cX0_copyFrom 60 = .ok (.iconst 0, 1) := by decide +kernel
theorem dX0_copyFrom_61 : decode cX0_copyFrom 61 = .ok (.istore_n 2, 1) := by decide +kernel
theorem dX0_copyFrom_62 : decode cX0_copyFrom 62 = .ok (.iload_n 2, 1) := by decide +kernel
theorem dX0_copyFrom_63 : decode cX0_copyFrom 63 = .ok (.bipush 8, 2) := by decide +kernel
theorem dX0_copyFrom_65 : decode cX0_copyFrom 65 = .ok (.if_icmp .ge 21, 3) := by decide +kernel
theorem dX0_copyFrom_68 : decode cX0_copyFrom 68 = .ok (.aload_n 0, 1) := by decide +kernel
theorem dX0_copyFrom_69 : decode cX0_copyFrom 69 = .ok (.getfield 21, 3) := by decide +kernel
theorem dX0_copyFrom_72 : decode cX0_copyFrom 72 = .ok (.iload_n 2, 1) := by decide +kernel
theorem dX0_copyFrom_73 : decode cX0_copyFrom 73 = .ok (.aload_n 1, 1) := by decide +kernel
theorem dX0_copyFrom_74 : decode cX0_copyFrom 74 = .ok (.getfield 21, 3) := by decide +kernel
theorem dX0_copyFrom_77 : decode cX0_copyFrom 77 = .ok (.iload_n 2, 1) := by decide +kernel
theorem dX0_copyFrom_78 : decode cX0_copyFrom 78 = .ok (.baload, 1) := by decide +kernel
theorem dX0_copyFrom_79 : decode cX0_copyFrom 79 = .ok (.bastore, 1) := by decide +kernel
theorem dX0_copyFrom_80 : decode cX0_copyFrom 80 = .ok (.iinc 2 1, 3) := by decide +kernel
theorem dX0_copyFrom_83 : decode cX0_copyFrom 83 = .ok (.goto (-21), 3) := by decide +kernel
theorem dX0_copyFrom_86 : decode cX0_copyFrom 86 = .ok (.iconst 0, 1) := by decide +kernel
theorem dX0_copyFrom_87 : decode cX0_copyFrom 87 = .ok (.istore_n 2, 1) := by decide +kernel
theorem dX0_copyFrom_88 : decode cX0_copyFrom 88 = .ok (.iload_n 2, 1) := by decide +kernel
theorem dX0_copyFrom_89 : decode cX0_copyFrom 89 = .ok (.bipush 9, 2) := by decide +kernel
theorem dX0_copyFrom_91 : decode cX0_copyFrom 91 = .ok (.if_icmp .ge 28, 3) := by decide +kernel
theorem dX0_copyFrom_94 : decode cX0_copyFrom 94 = .ok (.aload_n 1, 1) := by decide +kernel
theorem dX0_copyFrom_95 : decode cX0_copyFrom 95 = .ok (.getfield 30, 3) := by decide +kernel
theorem dX0_copyFrom_98 : decode cX0_copyFrom 98 = .ok (.iload_n 2, 1) := by decide +kernel
theorem dX0_copyFrom_99 : decode cX0_copyFrom 99 = .ok (.aaload, 1) := by decide +kernel
theorem dX0_copyFrom_100 : decode cX0_copyFrom 100 = .ok (.iconst 0, 1) := by decide +kernel
theorem dX0_copyFrom_101 : decode cX0_copyFrom 101 = .ok (.aload_n 0, 1) := by decide +kernel
theorem dX0_copyFrom_102 : decode cX0_copyFrom 102 = .ok (.getfield 30, 3) := by decide +kernel
theorem dX0_copyFrom_105 : decode cX0_copyFrom 105 = .ok (.iload_n 2, 1) := by decide +kernel
theorem dX0_copyFrom_106 : decode cX0_copyFrom 106 = .ok (.aaload, 1) := by decide +kernel
theorem dX0_copyFrom_107 : decode cX0_copyFrom 107 = .ok (.iconst 0, 1) := by decide +kernel
theorem dX0_copyFrom_108 : decode cX0_copyFrom 108 = .ok (.bipush 8, 2) := by decide +kernel
theorem dX0_copyFrom_110 : decode cX0_copyFrom 110 = .ok (.invokestatic 37, 3) := by decide +kernel
theorem dX0_copyFrom_113 : decode cX0_copyFrom 113 = .ok (.iinc 2 1, 3) := by decide +kernel
theorem dX0_copyFrom_116 : decode cX0_copyFrom 116 = .ok (.goto (-28), 3) := by decide +kernel
theorem dX0_copyFrom_119 : decode cX0_copyFrom 119 = .ok (.aload_n 0, 1) := by decide +kernel
theorem dX0_copyFrom_120 : decode cX0_copyFrom 120 = .ok (.aload_n 1, 1) := by decide +kernel
theorem dX0_copyFrom_121 : decode cX0_copyFrom 121 = .ok (.getfield 33, 3) := by decide +kernel
theorem dX0_copyFrom_124 : decode cX0_copyFrom 124 = .ok (.putfield 33, 3) := by decide +kernel
theorem dX0_copyFrom_127 : decode cX0_copyFrom 127 = .ok (.return_, 1) := by decide +kernel
theorem dX0_stopFan_0 : decode cX0_stopFan 0 = .ok (.aload_n 0, 1) := by decide +kernel
theorem dX0_stopFan_1 : decode cX0_stopFan 1 = .ok (.getfield 21, 3) := by decide +kernel
theorem dX0_stopFan_4 : decode cX0_stopFan 4 = .ok (.iload_n 1, 1) := by decide +kernel
theorem dX0_stopFan_5 : decode cX0_stopFan 5 = .ok (.iconst 1, 1) := by decide +kernel
theorem dX0_stopFan_6 : decode cX0_stopFan 6 = .ok (.bastore, 1) := by decide +kernel
theorem dX0_stopFan_7 : decode cX0_stopFan 7 = .ok (.aload_n 0, 1) := by decide +kernel
theorem dX0_stopFan_8 : decode cX0_stopFan 8 = .ok (.getfield 25, 3) := by decide +kernel
theorem dX0_stopFan_11 : decode cX0_stopFan 11 = .ok (.iload_n 1, 1) := by decide +kernel
theorem dX0_stopFan_12 : decode cX0_stopFan 12 = .ok (.iconst 0, 1) := by decide +kernel
theorem dX0_stopFan_13 : decode cX0_stopFan 13 = .ok (.iastore, 1) := by decide +kernel
theorem dX0_stopFan_14 : decode cX0_stopFan 14 = .ok (.return_, 1) := by decide +kernel
theorem dX0_countRunning_0 : decode cX0_countRunning 0 = .ok (.iconst 0, 1) := by decide +kernel
theorem dX0_countRunning_1 : decode cX0_countRunning 1 = .ok (.istore_n 1, 1) := by decide +kernel
theorem dX0_countRunning_2 : decode cX0_countRunning 2 = .ok (.iconst 0, 1) := by decide +kernel
theorem dX0_countRunning_3 : decode cX0_countRunning 3 = .ok (.istore_n 2, 1) := by decide +kernel
theorem dX0_countRunning_4 : decode cX0_countRunning 4 = .ok (.iload_n 2, 1) := by decide +kernel
theorem dX0_countRunning_5 : decode cX0_countRunning 5 = .ok (.bipush 8, 2) := by decide +kernel
theorem dX0_countRunning_7 : decode cX0_countRunning 7 = .ok (.if_icmp .ge 21, 3) := by decide +kernel
theorem dX0_countRunning_10 : decode cX0_countRunning 10 = .ok (.aload_n 0, 1) := by decide +kernel
theorem dX0_countRunning_11 : decode cX0_countRunning 11 = .ok (.getfield 21, 3) := by decide +kernel
theorem dX0_countRunning_14 : decode cX0_countRunning 14 = .ok (.iload_n 2, 1) := by decide +kernel
theorem dX0_countRunning_15 : decode cX0_countRunning 15 = .ok (.baload, 1) := by decide +kernel
theorem dX0_countRunning_16 : decode cX0_countRunning 16 = .ok (.ifCond .ne 6, 3) := by decide +kernel
theorem dX0_countRunning_19 : decode cX0_countRunning 19 = .ok (.iinc 1 1, 3) := by decide +kernel
theorem dX0_countRunning_22 : decode cX0_countRunning 22 = .ok (.iinc 2 1, 3) := by decide +kernel
theorem dX0_countRunning_25 : decode cX0_countRunning 25 = .ok (.goto (-21), 3) := by decide +kernel
theorem dX0_countRunning_28 : decode cX0_countRunning 28 = .ok (.iload_n 1, 1) := by decide +kernel
theorem dX0_countRunning_29 : decode cX0_countRunning 29 = .ok (.ireturn, 1) := by decide +kernel
set_option maxRecDepth 20000 in
theorem ggX0_commandsAgo_J9_floorMod_7cf53 : GoodIn wsX0_commandsAgo wsJ9_floorMod_7cf53 := goodIn_r _ [6] (by decide +kernel) (by decide +kernel)
set_option maxRecDepth 20000 in
theorem gX0_commandsAgo_J9_floorMod_7cf53 : GoodIn wsX0_commandsAgo (va_wsS RX0 43 yJ9_floorMod_7cf53 wsJ9_floorMod_7cf53) := goodIn_app (goodIn_of _ (by decide +kernel)) ggX0_commandsAgo_J9_floorMod_7cf53
theorem dX0_commandsAgo_0 : decode cX0_commandsAgo 0 = .ok (.aload_n 0, 1) := by decide +kernel
theorem dX0_commandsAgo_1 : decode cX0_commandsAgo 1 = .ok (.getfield 30, 3) := by decide +kernel
theorem dX0_commandsAgo_4 : decode cX0_commandsAgo 4 = .ok (.aload_n 0, 1) := by decide +kernel
theorem dX0_commandsAgo_5 : decode cX0_commandsAgo 5 = .ok (.getfield 33, 3) := by decide +kernel
theorem dX0_commandsAgo_8 : decode cX0_commandsAgo 8 = .ok (.iload_n 1, 1) := by decide +kernel
theorem dX0_commandsAgo_9 : decode cX0_commandsAgo 9 = .ok (.isub, 1) := by decide +kernel
theorem dX0_commandsAgo_10 : decode cX0_commandsAgo 10 = .ok (.bipush 9, 2) := by decide +kernel
theorem dX0_commandsAgo_12 : decode cX0_commandsAgo 12 = .ok (.invokestatic 43, 3) := by decide +kernel
theorem dX0_commandsAgo_15 : decode cX0_commandsAgo 15 = .ok (.aaload, 1) := by decide +kernel
theorem dX0_commandsAgo_16 : decode cX0_commandsAgo 16 = .ok (.areturn, 1) := by decide +kernel
set_option maxRecDepth 20000 in
theorem ggX0_runMinute_X0_control : GoodIn wsX0_runMinute wsX0_control := goodIn_r _ [7, 2, 8, 9, 10, 11, 12, 13, 14, 15, 16, 17, 18, 19, 20, 21, 22, 23, 24, 25, 63, 64, 65, 66, 67, 68, 69, 70, 71, 72, 73, 74, 75, 76, 77] (by decide +kernel) (by decide +kernel)
set_option maxRecDepth 20000 in
theorem gX0_runMinute_X0_control : GoodIn wsX0_runMinute (wsV RX0 49 RX0 yX0_control wsX0_control) := goodIn_app (goodIn_of _ (by decide +kernel)) ggX0_runMinute_X0_control
set_option maxRecDepth 20000 in
theorem ggX0_runMinute_X0_raiseForFailures : GoodIn wsX0_runMinute wsX0_raiseForFailures := goodIn_r _ [29, 30, 31, 32, 16, 17, 18, 22, 23, 24, 25, 70, 71, 72, 73, 74, 75, 76, 77, 63, 64, 65, 66, 67, 68, 69] (by decide +kernel) (by decide +kernel)
set_option maxRecDepth 20000 in
theorem gX0_runMinute_X0_raiseForFailures : GoodIn wsX0_runMinute (wsV RX0 53 RX0 yX0_raiseForFailures wsX0_raiseForFailures) := goodIn_app (goodIn_of _ (by decide +kernel)) ggX0_runMinute_X0_raiseForFailures
set_option maxRecDepth 20000 in
theorem ggX0_runMinute_X0_commandFans : GoodIn wsX0_runMinute wsX0_commandFans := goodIn_r _ [36, 37, 30, 38, 39, 24, 40, 41, 42, 43, 6, 44, 45, 46, 47, 48, 49, 1, 50, 20, 17, 21, 63, 64, 65, 66, 67, 68, 69, 70, 71, 72, 73, 74, 75, 76, 77] (by decide +kernel) (by decide +kernel)
set_option maxRecDepth 20000 in
theorem gX0_runMinute_X0_commandFans : GoodIn wsX0_runMinute (wsV RX0 57 RX0 yX0_commandFans wsX0_commandFans) := goodIn_app (goodIn_of _ (by decide +kernel)) ggX0_runMinute_X0_commandFans
set_option maxRecDepth 20000 in
theorem ggX0_runMinute_X0_turnFans : GoodIn wsX0_runMinute wsX0_turnFans := goodIn_r _ [54, 55, 56, 31, 41, 42, 43, 6, 44, 45, 37, 38, 39, 24, 40, 70, 71, 72, 73, 74, 75, 76, 77, 63, 64, 65, 66, 67, 68, 69] (by decide +kernel) (by decide +kernel)
set_option maxRecDepth 20000 in
theorem gX0_runMinute_X0_turnFans : GoodIn wsX0_runMinute (wsV RX0 61 RX0 yX0_turnFans wsX0_turnFans) := goodIn_app (goodIn_of _ (by decide +kernel)) ggX0_runMinute_X0_turnFans
set_option maxRecDepth 20000 in
theorem ggX0_runMinute_X0_nextTemperature : GoodIn wsX0_runMinute wsX0_nextTemperature := goodIn_r _ [60, 30, 56, 2, 61, 62, 22, 23, 24, 25, 70, 71, 72, 73, 74, 75, 76, 77, 63, 64, 65, 66, 67, 68, 69] (by decide +kernel) (by decide +kernel)
set_option maxRecDepth 20000 in
theorem gX0_runMinute_X0_nextTemperature : GoodIn wsX0_runMinute (wsV RX0 64 RX0 yX0_nextTemperature wsX0_nextTemperature) := goodIn_app (goodIn_of _ (by decide +kernel)) ggX0_runMinute_X0_nextTemperature
theorem dX0_runMinute_0 : decode cX0_runMinute 0 = .ok (.iconst 0, 1) := by decide +kernel
theorem dX0_runMinute_1 : decode cX0_runMinute 1 = .ok (.istore_n 2, 1) := by decide +kernel
theorem dX0_runMinute_2 : decode cX0_runMinute 2 = .ok (.iload_n 2, 1) := by decide +kernel
theorem dX0_runMinute_3 : decode cX0_runMinute 3 = .ok (.bipush 6, 2) := by decide +kernel
theorem dX0_runMinute_5 : decode cX0_runMinute 5 = .ok (.if_icmp .ge 29, 3) := by decide +kernel
theorem dX0_runMinute_8 : decode cX0_runMinute 8 = .ok (.aload_n 0, 1) := by decide +kernel
theorem dX0_runMinute_9 : decode cX0_runMinute 9 = .ok (.aload_n 1, 1) := by decide +kernel
theorem dX0_runMinute_10 : decode cX0_runMinute 10 = .ok (.iload_n 2, 1) := by decide +kernel
theorem dX0_runMinute_11 : decode cX0_runMinute 11 = .ok (.invokevirtual 49, 3) := by decide +kernel
theorem dX0_runMinute_14 : decode cX0_runMinute 14 = .ok (.istore_n 3, 1) := by decide +kernel
theorem dX0_runMinute_15 : decode cX0_runMinute 15 = .ok (.aload_n 0, 1) := by decide +kernel
theorem dX0_runMinute_16 : decode cX0_runMinute 16 = .ok (.getfield 18, 3) := by decide +kernel
theorem dX0_runMinute_19 : decode cX0_runMinute 19 = .ok (.iload_n 2, 1) := by decide +kernel
theorem dX0_runMinute_20 : decode cX0_runMinute 20 = .ok (.aload_n 0, 1) := by decide +kernel
theorem dX0_runMinute_21 : decode cX0_runMinute 21 = .ok (.aload_n 1, 1) := by decide +kernel
theorem dX0_runMinute_22 : decode cX0_runMinute 22 = .ok (.iload_n 2, 1) := by decide +kernel
theorem dX0_runMinute_23 : decode cX0_runMinute 23 = .ok (.iload_n 3, 1) := by decide +kernel
theorem dX0_runMinute_24 : decode cX0_runMinute 24 = .ok (.invokevirtual 53, 3) := by decide +kernel
theorem dX0_runMinute_27 : decode cX0_runMinute 27 = .ok (.iastore, 1) := by decide +kernel
theorem dX0_runMinute_28 : decode cX0_runMinute 28 = .ok (.iinc 2 1, 3) := by decide +kernel
theorem dX0_runMinute_31 : decode cX0_runMinute 31 = .ok (.goto (-29), 3) := by decide +kernel
theorem dX0_runMinute_34 : decode cX0_runMinute 34 = .ok (.aload_n 0, 1) := by decide +kernel
theorem dX0_runMinute_35 : decode cX0_runMinute 35 = .ok (.aload_n 1, 1) := by decide +kernel
theorem dX0_runMinute_36 : decode cX0_runMinute 36 = .ok (.invokevirtual 57, 3) := by decide +kernel
theorem dX0_runMinute_39 : decode cX0_runMinute 39 = .ok (.aload_n 0, 1) := by decide +kernel
theorem dX0_runMinute_40 : decode cX0_runMinute 40 = .ok (.aload_n 1, 1) := by decide +kernel
theorem dX0_runMinute_41 : decode cX0_runMinute 41 = .ok (.invokevirtual 61, 3) := by decide +kernel
theorem dX0_runMinute_44 : decode cX0_runMinute 44 = .ok (.iconst 0, 1) := by decide +kernel
theorem dX0_runMinute_45 : decode cX0_runMinute 45 = .ok (.istore_n 2, 1) := by decide +kernel
theorem dX0_runMinute_46 : decode cX0_runMinute 46 = .ok (.iload_n 2, 1) := by decide +kernel
theorem dX0_runMinute_47 : decode cX0_runMinute 47 = .ok (.bipush 6, 2) := by decide +kernel
theorem dX0_runMinute_49 : decode cX0_runMinute 49 = .ok (.if_icmp .ge 21, 3) := by decide +kernel
theorem dX0_runMinute_52 : decode cX0_runMinute 52 = .ok (.aload_n 0, 1) := by decide +kernel
theorem dX0_runMinute_53 : decode cX0_runMinute 53 = .ok (.getfield 9, 3) := by decide +kernel
theorem dX0_runMinute_56 : decode cX0_runMinute 56 = .ok (.iload_n 2, 1) := by decide +kernel
theorem dX0_runMinute_57 : decode cX0_runMinute 57 = .ok (.aload_n 0, 1) := by decide +kernel
theorem dX0_runMinute_58 : decode cX0_runMinute 58 = .ok (.aload_n 1, 1) := by decide +kernel
theorem dX0_runMinute_59 : decode cX0_runMinute 59 = .ok (.iload_n 2, 1) := by decide +kernel
theorem dX0_runMinute_60 : decode cX0_runMinute 60 = .ok (.invokevirtual 64, 3) := by decide +kernel
theorem dX0_runMinute_63 : decode cX0_runMinute 63 = .ok (.iastore, 1) := by decide +kernel
theorem dX0_runMinute_64 : decode cX0_runMinute 64 = .ok (.iinc 2 1, 3) := by decide +kernel
theorem dX0_runMinute_67 : decode cX0_runMinute 67 = .ok (.goto (-21), 3) := by decide +kernel
theorem dX0_runMinute_70 : decode cX0_runMinute 70 = .ok (.return_, 1) := by decide +kernel
set_option maxRecDepth 20000 in
theorem ggX0_control_X2_holdWithin : GoodIn wsX0_control wsX2_holdWithin := goodIn_r _ [8, 9, 10, 11, 12, 13, 14, 15] (by decide +kernel) (by decide +kernel)
set_option maxRecDepth 20000 in
theorem gX0_control_X2_holdWithin_n72 : GoodIn wsX0_control (wsX2_holdWithin) := ggX0_control_X2_holdWithin
set_option maxRecDepth 20000 in
theorem ggX0_control_J9_floorDiv_7cf53 : GoodIn wsX0_control wsJ9_floorDiv_7cf53 := goodIn_r _ [19] (by decide +kernel) (by decide +kernel)
set_option maxRecDepth 20000 in
theorem gX0_control_J9_floorDiv_7cf53 : GoodIn wsX0_control (va_wsS RX0 79 yJ9_floorDiv_7cf53 wsJ9_floorDiv_7cf53) := goodIn_app (goodIn_of _ (by decide +kernel)) ggX0_control_J9_floorDiv_7cf53
theorem dX0_control_0 : decode cX0_control 0 = .ok (.aload_n 0, 1) := by decide +kernel
theorem dX0_control_1 : decode cX0_control 1 = .ok (.getfield 9, 3) := by decide +kernel
theorem dX0_control_4 : decode cX0_control 4 = .ok (.iload_n 2, 1) := by decide +kernel
theorem dX0_control_5 : decode cX0_control 5 = .ok (.iaload, 1) := by decide +kernel
theorem dX0_control_6 : decode cX0_control 6 = .ok (.aload_n 1, 1) := by decide +kernel
theorem dX0_control_7 : decode cX0_control 7 = .ok (.getfield 67, 3) := by decide +kernel
theorem dX0_control_10 : decode cX0_control 10 = .ok (.iload_n 2, 1) := by decide +kernel
theorem dX0_control_11 : decode cX0_control 11 = .ok (.iaload, 1) := by decide +kernel
theorem dX0_control_12 : decode cX0_control 12 = .ok (.isub, 1) := by decide +kernel
theorem dX0_control_13 : decode cX0_control 13 = .ok (.istore_n 3, 1) := by decide +kernel
theorem dX0_control_14 : decode cX0_control 14 = .ok (.aload_n 0, 1) := by decide +kernel
theorem dX0_control_15 : decode cX0_control 15 = .ok (.getfield 15, 3) := by decide +kernel
theorem dX0_control_18 : decode cX0_control 18 = .ok (.iload_n 2, 1) := by decide +kernel
theorem dX0_control_19 : decode cX0_control 19 = .ok (.iaload, 1) := by decide +kernel
theorem dX0_control_20 : decode cX0_control 20 = .ok (.iload_n 3, 1) := by decide +kernel
theorem dX0_control_21 : decode cX0_control 21 = .ok (.iadd, 1) := by decide +kernel
theorem dX0_control_22 : decode cX0_control 22 = .ok (.sipush (-20000), 3) := by decide +kernel
theorem dX0_control_25 : decode cX0_control 25 = .ok (.sipush 20000, 3) := by decide +kernel
theorem dX0_control_28 : decode cX0_control 28 = .ok (.invokestatic 72, 3) := by decide +kernel
theorem dX0_control_31 : decode cX0_control 31 = .ok (.istore 4, 2) := by decide +kernel
theorem dX0_control_33 : decode cX0_control 33 = .ok (.aload_n 0, 1) := by decide +kernel
theorem dX0_control_34 : decode cX0_control 34 = .ok (.getfield 15, 3) := by decide +kernel
theorem dX0_control_37 : decode cX0_control 37 = .ok (.iload_n 2, 1) := by decide +kernel
theorem dX0_control_38 : decode cX0_control 38 = .ok (.iload 4, 2) := by decide +kernel
theorem dX0_control_40 : decode cX0_control 40 = .ok (.iastore, 1) := by decide +kernel
theorem dX0_control_41 : decode cX0_control 41 = .ok (.aload_n 1, 1) := by decide +kernel
theorem dX0_control_42 : decode cX0_control 42 = .ok (.getfield 76, 3) := by decide +kernel
theorem dX0_control_45 : decode cX0_control 45 = .ok (.iload 4, 2) := by decide +kernel
theorem dX0_control_47 : decode cX0_control 47 = .ok (.imul, 1) := by decide +kernel
theorem dX0_control_48 : decode cX0_control 48 = .ok (.bipush 100, 2) := by decide +kernel
theorem dX0_control_50 : decode cX0_control 50 = .ok (.invokestatic 79, 3) := by decide +kernel
theorem dX0_control_53 : decode cX0_control 53 = .ok (.istore 5, 2) := by decide +kernel
theorem dX0_control_55 : decode cX0_control 55 = .ok (.aload_n 1, 1) := by decide +kernel
theorem dX0_control_56 : decode cX0_control 56 = .ok (.getfield 82, 3) := by decide +kernel
theorem dX0_control_59 : decode cX0_control 59 = .ok (.iload_n 3, 1) := by decide +kernel
theorem dX0_control_60 : decode cX0_control 60 = .ok (.imul, 1) := by decide +kernel
theorem dX0_control_61 : decode cX0_control 61 = .ok (.iload 5, 2) := by decide +kernel
theorem dX0_control_63 : decode cX0_control 63 = .ok (.iadd, 1) := by decide +kernel
theorem dX0_control_64 : decode cX0_control 64 = .ok (.bipush 100, 2) := by decide +kernel
theorem dX0_control_66 : decode cX0_control 66 = .ok (.invokestatic 79, 3) := by decide +kernel
theorem dX0_control_69 : decode cX0_control 69 = .ok (.istore 6, 2) := by decide +kernel
theorem dX0_control_71 : decode cX0_control 71 = .ok (.iload 6, 2) := by decide +kernel
theorem dX0_control_73 : decode cX0_control 73 = .ok (.iconst 0, 1) := by decide +kernel
theorem dX0_control_74 : decode cX0_control 74 = .ok (.bipush 100, 2) := by decide +kernel
theorem dX0_control_76 : decode cX0_control 76 = .ok (.invokestatic 72, 3) := by decide +kernel
theorem dX0_control_79 : decode cX0_control 79 = .ok (.ireturn, 1) := by decide +kernel
set_option maxRecDepth 20000 in
theorem ggX0_raiseForFailures_J9_floorDiv_7cf53 : GoodIn wsX0_raiseForFailures wsJ9_floorDiv_7cf53 := goodIn_r _ [10] (by decide +kernel) (by decide +kernel)
set_option maxRecDepth 20000 in
theorem gX0_raiseForFailures_J9_floorDiv_7cf53 : GoodIn wsX0_raiseForFailures (va_wsS RX0 79 yJ9_floorDiv_7cf53 wsJ9_floorDiv_7cf53) := goodIn_app (goodIn_of _ (by decide +kernel)) ggX0_raiseForFailures_J9_floorDiv_7cf53
theorem dX0_raiseForFailures_0 : decode cX0_raiseForFailures 0 = .ok (.iconst 0, 1) := by decide +kernel
theorem dX0_raiseForFailures_1 : decode cX0_raiseForFailures 1 = .ok (.istore 4, 2) := by decide +kernel
theorem dX0_raiseForFailures_3 : decode cX0_raiseForFailures 3 = .ok (.iconst 0, 1) := by decide +kernel
theorem dX0_raiseForFailures_4 : decode cX0_raiseForFailures 4 = .ok (.istore 5, 2) := by decide +kernel
theorem dX0_raiseForFailures_6 : decode cX0_raiseForFailures 6 = .ok (.iconst 0, 1) := by decide +kernel
theorem dX0_raiseForFailures_7 : decode cX0_raiseForFailures 7 = .ok (.istore 6, 2) := by decide +kernel
theorem dX0_raiseForFailures_9 : decode cX0_raiseForFailures 9 = .ok (.iload 6, 2) := by decide +kernel
theorem dX0_raiseForFailures_11 : decode cX0_raiseForFailures 11 = .ok (.bipush 8, 2) := by decide +kernel
theorem dX0_raiseForFailures_13 : decode cX0_raiseForFailures 13 = .ok (.if_icmp .ge 44, 3) := by decide +kernel
theorem dX0_raiseForFailures_16 : decode cX0_raiseForFailures 16 = .ok (.aload_n 1, 1) := by decide +kernel
theorem dX0_raiseForFailures_17 : decode cX0_raiseForFailures 17 = .ok (.getfield 85, 3) := by decide +kernel
theorem dX0_raiseForFailures_20 : decode cX0_raiseForFailures 20 = .ok (.iload 6, 2) := by decide +kernel
theorem dX0_raiseForFailures_22 : decode cX0_raiseForFailures 22 = .ok (.aaload, 1) := by decide +kernel
theorem dX0_raiseForFailures_23 : decode cX0_raiseForFailures 23 = .ok (.iload_n 2, 1) := by decide +kernel
theorem dX0_raiseForFailures_24 : decode cX0_raiseForFailures 24 = .ok (.iaload, 1) := by decide +kernel
theorem dX0_raiseForFailures_25 : decode cX0_raiseForFailures 25 = .ok (.istore 7, 2) := by decide +kernel
theorem dX0_raiseForFailures_27 : decode cX0_raiseForFailures 27 = .ok (.iload 4, 2) := by decide +kernel
theorem dX0_raiseForFailures_29 : decode cX0_raiseForFailures 29 = .ok (.iload 7, 2) := by decide +kernel
theorem dX0_raiseForFailures_31 : decode cX0_raiseForFailures 31 = .ok (.iadd, 1) := by decide +kernel
theorem dX0_raiseForFailures_32 : decode cX0_raiseForFailures 32 = .ok (.istore 4, 2) := by decide +kernel
theorem dX0_raiseForFailures_34 : decode cX0_raiseForFailures 34 = .ok (.aload_n 0, 1) := by decide +kernel
theorem dX0_raiseForFailures_35 : decode cX0_raiseForFailures 35 = .ok (.getfield 21, 3) := by decide +kernel
theorem dX0_raiseForFailures_38 : decode cX0_raiseForFailures 38 = .ok (.iload 6, 2) := by decide +kernel
theorem dX0_raiseForFailures_40 : decode cX0_raiseForFailures 40 = .ok (.baload, 1) := by decide +kernel
theorem dX0_raiseForFailures_41 : decode cX0_raiseForFailures 41 = .ok (.ifCond .ne 10, 3) := by decide +kernel
theorem dX0_raiseForFailures_44 : decode cX0_raiseForFailures 44 = .ok (.iload 5, 2) := by decide +kernel
theorem dX0_raiseForFailures_46 : decode cX0_raiseForFailures 46 = .ok (.iload 7, 2) := by decide +kernel
theorem dX0_raiseForFailures_48 : decode cX0_raiseForFailures 48 = .ok (.iadd, 1) := by decide +kernel
theorem dX0_raiseForFailures_49 : decode cX0_raiseForFailures 49 = .ok (.istore 5, 2) := by decide +kernel
theorem dX0_raiseForFailures_51 : decode cX0_raiseForFailures 51 = .ok (.iinc 6 1, 3) := by decide +kernel
theorem dX0_raiseForFailures_54 : decode cX0_raiseForFailures 54 = .ok (.goto (-45), 3) := by decide +kernel
theorem dX0_raiseForFailures_57 : decode cX0_raiseForFailures 57 = .ok (.iload 5, 2) := by decide +kernel
theorem dX0_raiseForFailures_59 : decode cX0_raiseForFailures 59 = .ok (.iload 4, 2) := by decide +kernel
theorem dX0_raiseForFailures_61 : decode cX0_raiseForFailures 61 = .ok (.if_icmp .ne 5, 3) := by decide +kernel
theorem dX0_raiseForFailures_64 : decode cX0_raiseForFailures 64 = .ok (.iload_n 3, 1) := by decide +kernel
theorem dX0_raiseForFailures_65 : decode cX0_raiseForFailures 65 = .ok (.ireturn, 1) := by decide +kernel
theorem dX0_raiseForFailures_66 : decode cX0_raiseForFailures 66 = .ok (.iload 5, 2) := by decide +kernel
theorem dX0_raiseForFailures_68 : decode cX0_raiseForFailures 68 = .ok (.ifCond .ne 6, 3) := by decide +kernel
theorem dX0_raiseForFailures_71 : decode cX0_raiseForFailures 71 = .ok (.bipush 100, 2) := by decide +kernel
theorem dX0_raiseForFailures_73 : decode cX0_raiseForFailures 73 = .ok (.ireturn, 1) := by decide +kernel
theorem dX0_raiseForFailures_74 : decode cX0_raiseForFailures 74 = .ok (.bipush 100, 2) := by decide +kernel
theorem dX0_raiseForFailures_76 : decode cX0_raiseForFailures 76 = .ok (.iload_n 3, 1) := by decide +kernel
theorem dX0_raiseForFailures_77 : decode cX0_raiseForFailures 77 = .ok (.iload 4, 2) := by decide +kernel
theorem dX0_raiseForFailures_79 : decode cX0_raiseForFailures 79 = .ok (.imul, 1) := by decide +kernel
theorem dX0_raiseForFailures_80 : decode cX0_raiseForFailures 80 = .ok (.iload 5, 2) := by decide +kernel
theorem dX0_raiseForFailures_82 : decode cX0_raiseForFailures 82 = .ok (.invokestatic 79, 3) := by decide +kernel
theorem dX0_raiseForFailures_85 : decode cX0_raiseForFailures 85 = .ok (.invokestatic 88, 3) := by decide +kernel
theorem dX0_raiseForFailures_88 : decode cX0_raiseForFailures 88 = .ok (.ireturn, 1) := by decide +kernel
set_option maxRecDepth 20000 in
theorem ggX0_commandFans_J9_floorMod_7cf53 : GoodIn wsX0_commandFans wsJ9_floorMod_7cf53 := goodIn_r _ [6] (by decide +kernel) (by decide +kernel)
set_option maxRecDepth 20000 in
theorem gX0_commandFans_J9_floorMod_7cf53 : GoodIn wsX0_commandFans (va_wsS RX0 43 yJ9_floorMod_7cf53 wsJ9_floorMod_7cf53) := goodIn_app (goodIn_of _ (by decide +kernel)) ggX0_commandFans_J9_floorMod_7cf53
set_option maxRecDepth 20000 in
theorem ggX0_commandFans_X0_commandsAgo : GoodIn wsX0_commandFans wsX0_commandsAgo := goodIn_r _ [11, 12, 1, 3, 4, 5, 6, 22, 23, 24, 25, 26, 27, 28] (by decide +kernel) (by decide +kernel)
set_option maxRecDepth 20000 in
theorem gX0_commandFans_X0_commandsAgo : GoodIn wsX0_commandFans (wsV RX0 91 RX0 yX0_commandsAgo wsX0_commandsAgo) := goodIn_app (goodIn_of _ (by decide +kernel)) ggX0_commandFans_X0_commandsAgo
set_option maxRecDepth 20000 in
theorem ggX0_commandFans_X0_greatestDemand : GoodIn wsX0_commandFans wsX0_greatestDemand := goodIn_r _ [16, 17, 18, 19, 20, 21, 22, 23, 24, 25, 26, 27, 28] (by decide +kernel) (by decide +kernel)
set_option maxRecDepth 20000 in
theorem gX0_commandFans_X0_greatestDemand : GoodIn wsX0_commandFans (wsV RX0 95 RX0 yX0_greatestDemand wsX0_greatestDemand) := goodIn_app (goodIn_of _ (by decide +kernel)) ggX0_commandFans_X0_greatestDemand
theorem dX0_commandFans_0 : decode cX0_commandFans 0 = .ok (.aload_n 0, 1) := by decide +kernel
theorem dX0_commandFans_1 : decode cX0_commandFans 1 = .ok (.aload_n 0, 1) := by decide +kernel
theorem dX0_commandFans_2 : decode cX0_commandFans 2 = .ok (.getfield 33, 3) := by decide +kernel
theorem dX0_commandFans_5 : decode cX0_commandFans 5 = .ok (.iconst 1, 1) := by decide +kernel
theorem dX0_commandFans_6 : decode cX0_commandFans 6 = .ok (.iadd, 1) := by decide +kernel
theorem dX0_commandFans_7 : decode cX0_commandFans 7 = .ok (.bipush 9, 2) := by decide +kernel
theorem dX0_commandFans_9 : decode cX0_commandFans 9 = .ok (.invokestatic 43, 3) := by decide +kernel
theorem dX0_commandFans_12 : decode cX0_commandFans 12 = .ok (.putfield 33, 3) := by decide +kernel
theorem dX0_commandFans_15 : decode cX0_commandFans 15 = .ok (.aload_n 0, 1) := by decide +kernel
theorem dX0_commandFans_16 : decode cX0_commandFans 16 = .ok (.iconst 0, 1) := by decide +kernel
theorem dX0_commandFans_17 : decode cX0_commandFans 17 = .ok (.invokevirtual 91, 3) := by decide +kernel
theorem dX0_commandFans_20 : decode cX0_commandFans 20 = .ok (.astore_n 2, 1) := by decide +kernel
theorem dX0_commandFans_21 : decode cX0_commandFans 21 = .ok (.iconst 0, 1) := by decide +kernel
theorem dX0_commandFans_22 : decode cX0_commandFans 22 = .ok (.istore_n 3, 1) := by decide +kernel
theorem dX0_commandFans_23 : decode cX0_commandFans 23 = .ok (.iload_n 3, 1) := by decide +kernel
theorem dX0_commandFans_24 : decode cX0_commandFans 24 = .ok (.bipush 8, 2) := by decide +kernel
theorem dX0_commandFans_26 : decode cX0_commandFans 26 = .ok (.if_icmp .ge 22, 3) := by decide +kernel
theorem dX0_commandFans_29 : decode cX0_commandFans 29 = .ok (.aload_n 2, 1) := by decide +kernel
theorem dX0_commandFans_30 : decode cX0_commandFans 30 = .ok (.iload_n 3, 1) := by decide +kernel
theorem dX0_commandFans_31 : decode cX0_commandFans 31 = .ok (.aload_n 0, 1) := by decide +kernel
theorem dX0_commandFans_32 : decode cX0_commandFans 32 = .ok (.aload_n 1, 1) := by decide +kernel
theorem dX0_commandFans_33 : decode cX0_commandFans 33 = .ok (.getfield 85, 3) := by decide +kernel
theorem dX0_commandFans_36 : decode cX0_commandFans 36 = .ok (.iload_n 3, 1) := by decide +kernel
theorem dX0_commandFans_37 : decode cX0_commandFans 37 = .ok (.aaload, 1) := by decide +kernel
theorem dX0_commandFans_38 : decode cX0_commandFans 38 = .ok (.invokevirtual 95, 3) := by decide +kernel
theorem dX0_commandFans_41 : decode cX0_commandFans 41 = .ok (.iastore, 1) := by decide +kernel
theorem dX0_commandFans_42 : decode cX0_commandFans 42 = .ok (.iinc 3 1, 3) := by decide +kernel
theorem dX0_commandFans_45 : decode cX0_commandFans 45 = .ok (.goto (-22), 3) := by decide +kernel
theorem dX0_commandFans_48 : decode cX0_commandFans 48 = .ok (.return_, 1) := by decide +kernel
theorem dX0_greatestDemand_0 : decode cX0_greatestDemand 0 = .ok (.iconst 0, 1) := by decide +kernel
theorem dX0_greatestDemand_1 : decode cX0_greatestDemand 1 = .ok (.istore_n 2, 1) := by decide +kernel
theorem dX0_greatestDemand_2 : decode cX0_greatestDemand 2 = .ok (.iconst 0, 1) := by decide +kernel
theorem dX0_greatestDemand_3 : decode cX0_greatestDemand 3 = .ok (.istore_n 3, 1) := by decide +kernel
theorem dX0_greatestDemand_4 : decode cX0_greatestDemand 4 = .ok (.iload_n 3, 1) := by decide +kernel
theorem dX0_greatestDemand_5 : decode cX0_greatestDemand 5 = .ok (.bipush 6, 2) := by decide +kernel
theorem dX0_greatestDemand_7 : decode cX0_greatestDemand 7 = .ok (.if_icmp .ge 26, 3) := by decide +kernel
theorem dX0_greatestDemand_10 : decode cX0_greatestDemand 10 = .ok (.aload_n 1, 1) := by decide +kernel
theorem dX0_greatestDemand_11 : decode cX0_greatestDemand 11 = .ok (.iload_n 3, 1) := by decide +kernel
theorem dX0_greatestDemand_12 : decode cX0_greatestDemand 12 = .ok (.iaload, 1) := by decide +kernel
theorem dX0_greatestDemand_13 : decode cX0_greatestDemand 13 = .ok (.ifCond .le 14, 3) := by decide +kernel
theorem dX0_greatestDemand_16 : decode cX0_greatestDemand 16 = .ok (.iload_n 2, 1) := by decide +kernel
theorem dX0_greatestDemand_17 : decode cX0_greatestDemand 17 = .ok (.aload_n 0, 1) := by decide +kernel
theorem dX0_greatestDemand_18 : decode cX0_greatestDemand 18 = .ok (.getfield 18, 3) := by decide +kernel
theorem dX0_greatestDemand_21 : decode cX0_greatestDemand 21 = .ok (.iload_n 3, 1) := by decide +kernel
theorem dX0_greatestDemand_22 : decode cX0_greatestDemand 22 = .ok (.iaload, 1) := by decide +kernel
theorem dX0_greatestDemand_23 : decode cX0_greatestDemand 23 = .ok (.invokestatic 99, 3) := by decide +kernel
theorem dX0_greatestDemand_26 : decode cX0_greatestDemand 26 = .ok (.istore_n 2, 1) := by decide +kernel
theorem dX0_greatestDemand_27 : decode cX0_greatestDemand 27 = .ok (.iinc 3 1, 3) := by decide +kernel
theorem dX0_greatestDemand_30 : decode cX0_greatestDemand 30 = .ok (.goto (-26), 3) := by decide +kernel
theorem dX0_greatestDemand_33 : decode cX0_greatestDemand 33 = .ok (.iload_n 2, 1) := by decide +kernel
theorem dX0_greatestDemand_34 : decode cX0_greatestDemand 34 = .ok (.ireturn, 1) := by decide +kernel
set_option maxRecDepth 20000 in
theorem ggX0_turnFans_X0_commandsAgo : GoodIn wsX0_turnFans wsX0_commandsAgo := goodIn_r _ [8, 9, 10, 11, 12, 13, 14, 23, 24, 25, 26, 27, 28, 29] (by decide +kernel) (by decide +kernel)
set_option maxRecDepth 20000 in
theorem gX0_turnFans_X0_commandsAgo : GoodIn wsX0_turnFans (wsV RX0 91 RX0 yX0_commandsAgo wsX0_commandsAgo) := goodIn_app (goodIn_of _ (by decide +kernel)) ggX0_turnFans_X0_commandsAgo
theorem dX0_turnFans_0 : decode cX0_turnFans 0 = .ok (.aload_n 0, 1) := by decide +kernel
theorem dX0_turnFans_1 : decode cX0_turnFans 1 = .ok (.aload_n 1, 1) := by decide +kernel
theorem dX0_turnFans_2 : decode cX0_turnFans 2 = .ok (.getfield 102, 3) := by decide +kernel
theorem dX0_turnFans_5 : decode cX0_turnFans 5 = .ok (.invokevirtual 91, 3) := by decide +kernel
theorem dX0_turnFans_8 : decode cX0_turnFans 8 = .ok (.astore_n 2, 1) := by decide +kernel
theorem dX0_turnFans_9 : decode cX0_turnFans 9 = .ok (.iconst 0, 1) := by decide +kernel
theorem dX0_turnFans_10 : decode cX0_turnFans 10 = .ok (.istore_n 3, 1) := by decide +kernel
theorem dX0_turnFans_11 : decode cX0_turnFans 11 = .ok (.iload_n 3, 1) := by decide +kernel
theorem dX0_turnFans_12 : decode cX0_turnFans 12 = .ok (.bipush 8, 2) := by decide +kernel
theorem dX0_turnFans_14 : decode cX0_turnFans 14 = .ok (.if_icmp .ge 31, 3) := by decide +kernel
theorem dX0_turnFans_17 : decode cX0_turnFans 17 = .ok (.aload_n 0, 1) := by decide +kernel
theorem dX0_turnFans_18 : decode cX0_turnFans 18 = .ok (.getfield 25, 3) := by decide +kernel
theorem dX0_turnFans_21 : decode cX0_turnFans 21 = .ok (.iload_n 3, 1) := by decide +kernel
theorem dX0_turnFans_22 : decode cX0_turnFans 22 = .ok (.aload_n 0, 1) := by decide +kernel
theorem dX0_turnFans_23 : decode cX0_turnFans 23 = .ok (.getfield 21, 3) := by decide +kernel
theorem dX0_turnFans_26 : decode cX0_turnFans 26 = .ok (.iload_n 3, 1) := by decide +kernel
theorem dX0_turnFans_27 : decode cX0_turnFans 27 = .ok (.baload, 1) := by decide +kernel
theorem dX0_turnFans_28 : decode cX0_turnFans 28 = .ok (.ifCond .eq 7, 3) := by decide +kernel
theorem dX0_turnFans_31 : decode cX0_turnFans 31 = .ok (.iconst 0, 1) := by decide +kernel
theorem dX0_turnFans_32 : decode cX0_turnFans 32 = .ok (.goto 6, 3) := by decide +kernel
theorem dX0_turnFans_35 : decode cX0_turnFans 35 = .ok (.aload_n 2, 1) := by decide +kernel
theorem dX0_turnFans_36 : decode cX0_turnFans 36 = .ok (.iload_n 3, 1) := by decide +kernel
theorem dX0_turnFans_37 : decode cX0_turnFans 37 = .ok (.iaload, 1) := by decide +kernel
theorem dX0_turnFans_38 : decode cX0_turnFans 38 = .ok (.iastore, 1) := by decide +kernel
theorem dX0_turnFans_39 : decode cX0_turnFans 39 = .ok (.iinc 3 1, 3) := by decide +kernel
theorem dX0_turnFans_42 : decode cX0_turnFans 42 = .ok (.goto (-31), 3) := by decide +kernel
theorem dX0_turnFans_45 : decode cX0_turnFans 45 = .ok (.return_, 1) := by decide +kernel
set_option maxRecDepth 20000 in
theorem ggX0_nextTemperature_J9_floorDiv_7cf53 : GoodIn wsX0_nextTemperature wsJ9_floorDiv_7cf53 := goodIn_r _ [9] (by decide +kernel) (by decide +kernel)
set_option maxRecDepth 20000 in
theorem gX0_nextTemperature_J9_floorDiv_7cf53 : GoodIn wsX0_nextTemperature (va_wsS RX0 79 yJ9_floorDiv_7cf53 wsJ9_floorDiv_7cf53) := goodIn_app (goodIn_of _ (by decide +kernel)) ggX0_nextTemperature_J9_floorDiv_7cf53
theorem dX0_nextTemperature_0 : decode cX0_nextTemperature 0 = .ok (.iconst 0, 1) := by decide +kernel
theorem dX0_nextTemperature_1 : decode cX0_nextTemperature 1 = .ok (.istore_n 3, 1) := by decide +kernel
theorem dX0_nextTemperature_2 : decode cX0_nextTemperature 2 = .ok (.iconst 0, 1) := by decide +kernel
theorem dX0_nextTemperature_3 : decode cX0_nextTemperature 3 = .ok (.istore 4, 2) := by decide +kernel
theorem dX0_nextTemperature_5 : decode cX0_nextTemperature 5 = .ok (.iload 4, 2) := by decide +kernel
theorem dX0_nextTemperature_7 : decode cX0_nextTemperature 7 = .ok (.bipush 8, 2) := by decide +kernel
theorem dX0_nextTemperature_9 : decode cX0_nextTemperature 9 = .ok (.if_icmp .ge 29, 3) := by decide +kernel
theorem dX0_nextTemperature_12 : decode cX0_nextTemperature 12 = .ok (.iload_n 3, 1) := by decide +kernel
theorem dX0_nextTemperature_13 : decode cX0_nextTemperature 13 = .ok (.aload_n 1, 1) := by decide +kernel
theorem dX0_nextTemperature_14 : decode cX0_nextTemperature 14 = .ok (.getfield 85, 3) := by decide +kernel
theorem dX0_nextTemperature_17 : decode cX0_nextTemperature 17 = .ok (.iload 4, 2) := by decide +kernel
theorem dX0_nextTemperature_19 : decode cX0_nextTemperature 19 = .ok (.aaload, 1) := by decide +kernel
theorem dX0_nextTemperature_20 : decode cX0_nextTemperature 20 = .ok (.iload_n 2, 1) := by decide +kernel
theorem dX0_nextTemperature_21 : decode cX0_nextTemperature 21 = .ok (.iaload, 1) := by decide +kernel
theorem dX0_nextTemperature_22 : decode cX0_nextTemperature 22 = .ok (.aload_n 0, 1) := by decide +kernel
theorem dX0_nextTemperature_23 : decode cX0_nextTemperature 23 = .ok (.getfield 25, 3) := by decide +kernel
theorem dX0_nextTemperature_26 : decode cX0_nextTemperature 26 = .ok (.iload 4, 2) := by decide +kernel
theorem dX0_nextTemperature_28 : decode cX0_nextTemperature 28 = .ok (.iaload, 1) := by decide +kernel
theorem dX0_nextTemperature_29 : decode cX0_nextTemperature 29 = .ok (.imul, 1) := by decide +kernel
theorem dX0_nextTemperature_30 : decode cX0_nextTemperature 30 = .ok (.iadd, 1) := by decide +kernel
theorem dX0_nextTemperature_31 : decode cX0_nextTemperature 31 = .ok (.istore_n 3, 1) := by decide +kernel
theorem dX0_nextTemperature_32 : decode cX0_nextTemperature 32 = .ok (.iinc 4 1, 3) := by decide +kernel
theorem dX0_nextTemperature_35 : decode cX0_nextTemperature 35 = .ok (.goto (-30), 3) := by decide +kernel
theorem dX0_nextTemperature_38 : decode cX0_nextTemperature 38 = .ok (.aload_n 0, 1) := by decide +kernel
theorem dX0_nextTemperature_39 : decode cX0_nextTemperature 39 = .ok (.getfield 9, 3) := by decide +kernel
theorem dX0_nextTemperature_42 : decode cX0_nextTemperature 42 = .ok (.iload_n 2, 1) := by decide +kernel
theorem dX0_nextTemperature_43 : decode cX0_nextTemperature 43 = .ok (.iaload, 1) := by decide +kernel
theorem dX0_nextTemperature_44 : decode cX0_nextTemperature 44 = .ok (.istore 4, 2) := by decide +kernel
theorem dX0_nextTemperature_46 : decode cX0_nextTemperature 46 = .ok (.aload_n 1, 1) := by decide +kernel
theorem dX0_nextTemperature_47 : decode cX0_nextTemperature 47 = .ok (.getfield 105, 3) := by decide +kernel
theorem dX0_nextTemperature_50 : decode cX0_nextTemperature 50 = .ok (.iload 4, 2) := by decide +kernel
theorem dX0_nextTemperature_52 : decode cX0_nextTemperature 52 = .ok (.isub, 1) := by decide +kernel
theorem dX0_nextTemperature_53 : decode cX0_nextTemperature 53 = .ok (.bipush 64, 2) := by decide +kernel
theorem dX0_nextTemperature_55 : decode cX0_nextTemperature 55 = .ok (.invokestatic 79, 3) := by decide +kernel
theorem dX0_nextTemperature_58 : decode cX0_nextTemperature 58 = .ok (.istore 5, 2) := by decide +kernel
theorem dX0_nextTemperature_60 : decode cX0_nextTemperature 60 = .ok (.iload 4, 2) := by decide +kernel
theorem dX0_nextTemperature_62 : decode cX0_nextTemperature 62 = .ok (.aload_n 1, 1) := by decide +kernel
theorem dX0_nextTemperature_63 : decode cX0_nextTemperature 63 = .ok (.getfield 108, 3) := by decide +kernel
theorem dX0_nextTemperature_66 : decode cX0_nextTemperature 66 = .ok (.iload_n 2, 1) := by decide +kernel
theorem dX0_nextTemperature_67 : decode cX0_nextTemperature 67 = .ok (.iaload, 1) := by decide +kernel
theorem dX0_nextTemperature_68 : decode cX0_nextTemperature 68 = .ok (.iadd, 1) := by decide +kernel
theorem dX0_nextTemperature_69 : decode cX0_nextTemperature 69 = .ok (.iload 5, 2) := by decide +kernel
theorem dX0_nextTemperature_71 : decode cX0_nextTemperature 71 = .ok (.iadd, 1) := by decide +kernel
theorem dX0_nextTemperature_72 : decode cX0_nextTemperature 72 = .ok (.iload_n 3, 1) := by decide +kernel
theorem dX0_nextTemperature_73 : decode cX0_nextTemperature 73 = .ok (.bipush 100, 2) := by decide +kernel
theorem dX0_nextTemperature_75 : decode cX0_nextTemperature 75 = .ok (.idiv, 1) := by decide +kernel
theorem dX0_nextTemperature_76 : decode cX0_nextTemperature 76 = .ok (.isub, 1) := by decide +kernel
theorem dX0_nextTemperature_77 : decode cX0_nextTemperature 77 = .ok (.ireturn, 1) := by decide +kernel
theorem dX1_init_0 : decode cX1_init 0 = .ok (.aload_n 0, 1) := by decide +kernel
theorem dX1_init_1 : decode cX1_init 1 = .ok (.invokespecial 3, 3) := by decide +kernel
theorem dX1_init_4 : decode cX1_init 4 = .ok (.aload_n 0, 1) := by decide +kernel
theorem dX1_init_5 : decode cX1_init 5 = .ok (.bipush 6, 2) := by decide +kernel
theorem dX1_init_7 : decode cX1_init 7 = .ok (.newarray .int, 2) := by decide +kernel
theorem dX1_init_9 : decode cX1_init 9 = .ok (.putfield 9, 3) := by decide +kernel
theorem dX1_init_12 : decode cX1_init 12 = .ok (.aload_n 0, 1) := by decide +kernel
theorem dX1_init_13 : decode cX1_init 13 = .ok (.bipush 6, 2) := by decide +kernel
theorem dX1_init_15 : decode cX1_init 15 = .ok (.newarray .int, 2) := by decide +kernel
theorem dX1_init_17 : decode cX1_init 17 = .ok (.putfield 15, 3) := by decide +kernel
theorem dX1_init_20 : decode cX1_init 20 = .ok (.aload_n 0, 1) := by decide +kernel
theorem dX1_init_21 : decode cX1_init 21 = .ok (.bipush 8, 2) := by decide +kernel
theorem dX1_init_23 : decode cX1_init 23 = .ok (.bipush 6, 2) := by decide +kernel
theorem dX1_init_25 : decode cX1_init 25 = .ok (.multianewarray 18 2, 4) := by decide +kernel
theorem dX1_init_29 : decode cX1_init 29 = .ok (.putfield 20, 3) := by decide +kernel
theorem dX1_init_32 : decode cX1_init 32 = .ok (.iconst 0, 1) := by decide +kernel
theorem dX1_init_33 : decode cX1_init 33 = .ok (.istore_n 1, 1) := by decide +kernel
theorem dX1_init_34 : decode cX1_init 34 = .ok (.iload_n 1, 1) := by decide +kernel
theorem dX1_init_35 : decode cX1_init 35 = .ok (.bipush 6, 2) := by decide +kernel
theorem dX1_init_37 : decode cX1_init 37 = .ok (.if_icmp .ge 53, 3) := by decide +kernel
theorem dX1_init_40 : decode cX1_init 40 = .ok (.aload_n 0, 1) := by decide +kernel
theorem dX1_init_41 : decode cX1_init 41 = .ok (.getfield 15, 3) := by decide +kernel
theorem dX1_init_44 : decode cX1_init 44 = .ok (.iload_n 1, 1) := by decide +kernel
theorem dX1_init_45 : decode cX1_init 45 = .ok (.sipush 2200, 3) := by decide +kernel
theorem dX1_init_48 : decode cX1_init 48 = .ok (.iastore, 1) := by decide +kernel
theorem dX1_init_49 : decode cX1_init 49 = .ok (.aload_n 0, 1) := by decide +kernel
theorem dX1_init_50 : decode cX1_init 50 = .ok (.getfield 20, 3) := by decide +kernel
theorem dX1_init_53 : decode cX1_init 53 = .ok (.iload_n 1, 1) := by decide +kernel
theorem dX1_init_54 : decode cX1_init 54 = .ok (.aaload, 1) := by decide +kernel
theorem dX1_init_55 : decode cX1_init 55 = .ok (.iload_n 1, 1) := by decide +kernel
theorem dX1_init_56 : decode cX1_init 56 = .ok (.bipush 60, 2) := by decide +kernel
theorem dX1_init_58 : decode cX1_init 58 = .ok (.iastore, 1) := by decide +kernel
theorem dX1_init_59 : decode cX1_init 59 = .ok (.bipush 6, 2) := by decide +kernel
theorem dX1_init_61 : decode cX1_init 61 = .ok (.istore_n 2, 1) := by decide +kernel
theorem dX1_init_62 : decode cX1_init 62 = .ok (.iload_n 2, 1) := by decide +kernel
theorem dX1_init_63 : decode cX1_init 63 = .ok (.bipush 8, 2) := by decide +kernel
theorem dX1_init_65 : decode cX1_init 65 = .ok (.if_icmp .ge 19, 3) := by decide +kernel
theorem dX1_init_68 : decode cX1_init 68 = .ok (.aload_n 0, 1) := by decide +kernel
theorem dX1_init_69 : decode cX1_init 69 = .ok (.getfield 20, 3) := by decide +kernel
theorem dX1_init_72 : decode cX1_init 72 = .ok (.iload_n 2, 1) := by decide +kernel
theorem dX1_init_73 : decode cX1_init 73 = .ok (.aaload, 1) := by decide +kernel
theorem dX1_init_74 : decode cX1_init 74 = .ok (.iload_n 1, 1) := by decide +kernel
theorem dX1_init_75 : decode cX1_init 75 = .ok (.bipush 20, 2) := by decide +kernel
theorem dX1_init_77 : decode cX1_init 77 = .ok (.iastore, 1) := by decide +kernel
theorem dX1_init_78 : decode cX1_init 78 = .ok (.iinc 2 1, 3) := by decide +kernel
theorem dX1_init_81 : decode cX1_init 81 = .ok (.goto (-19), 3) := by decide +kernel
theorem dX1_init_84 : decode cX1_init 84 = .ok (.iinc 1 1, 3) := by decide +kernel
theorem dX1_init_87 : decode cX1_init 87 = .ok (.goto (-53), 3) := by decide +kernel
theorem dX1_init_90 : decode cX1_init 90 = .ok (.aload_n 0, 1) := by decide +kernel
theorem dX1_init_91 : decode cX1_init 91 = .ok (.bipush 20, 2) := by decide +kernel
theorem dX1_init_93 : decode cX1_init 93 = .ok (.putfield 23, 3) := by decide +kernel
theorem dX1_init_96 : decode cX1_init 96 = .ok (.aload_n 0, 1) := by decide +kernel
theorem dX1_init_97 : decode cX1_init 97 = .ok (.bipush 10, 2) := by decide +kernel
theorem dX1_init_99 : decode cX1_init 99 = .ok (.putfield 27, 3) := by decide +kernel
theorem dX1_init_102 : decode cX1_init 102 = .ok (.aload_n 0, 1) := by decide +kernel
theorem dX1_init_103 : decode cX1_init 103 = .ok (.sipush 2500, 3) := by decide +kernel
theorem dX1_init_106 : decode cX1_init 106 = .ok (.putfield 30, 3) := by decide +kernel
theorem dX1_init_109 : decode cX1_init 109 = .ok (.aload_n 0, 1) := by decide +kernel
theorem dX1_init_110 : decode cX1_init 110 = .ok (.sipush 2700, 3) := by decide +kernel
theorem dX1_init_113 : decode cX1_init 113 = .ok (.putfield 33, 3) := by decide +kernel
theorem dX1_init_116 : decode cX1_init 116 = .ok (.aload_n 0, 1) := by decide +kernel
theorem dX1_init_117 : decode cX1_init 117 = .ok (.iconst 2, 1) := by decide +kernel
theorem dX1_init_118 : decode cX1_init 118 = .ok (.putfield 36, 3) := by decide +kernel
theorem dX1_init_121 : decode cX1_init 121 = .ok (.return_, 1) := by decide +kernel
theorem dX2_holdWithin_0 : decode cX2_holdWithin 0 = .ok (.iload_n 1, 1) := by decide +kernel
theorem dX2_holdWithin_1 : decode cX2_holdWithin 1 = .ok (.iload_n 2, 1) := by decide +kernel
theorem dX2_holdWithin_2 : decode cX2_holdWithin 2 = .ok (.iload_n 0, 1) := by decide +kernel
theorem dX2_holdWithin_3 : decode cX2_holdWithin 3 = .ok (.invokestatic 142, 3) := by decide +kernel
theorem dX2_holdWithin_6 : decode cX2_holdWithin 6 = .ok (.invokestatic 132, 3) := by decide +kernel
theorem dX2_holdWithin_9 : decode cX2_holdWithin 9 = .ok (.ireturn, 1) := by decide +kernel
end
section
/-! ===== my rows: worlds whose places stay, contracts with a told answer ===== -/
def kN (U : State) : Prop := va_Nw (.methodLinkNest RX0 72 yX2_holdWithin RX2) U
theorem kN.warm {s U : State} (hW : s.WarmedH U.vm) (h : kN s) : kN U := va_Nw.warmM hW h
theorem kN.blind {u U : State} (hv : u.vm = U.vm) (h : kN u) : kN U := va_Nw.same rfl hv h
def kPre (D : va_G) (tys : List (ClassId × FieldType)) (W0 : va_W) (sz : Nat) : State → Prop := fun U => U.heap.size = sz ∧ va_P D vwCl W0 U.heap ∧ va_K D vwCl tys U ∧ va_D (fun _ => True) W0 ∧ kN U
def kB (D : va_G) (W1 : va_W) : Unit → State → Prop := fun _ t => va_P D vwCl W1 t.heap
abbrev kMi (l : Launch) (y : MethodName) (ws : List Cond) (rm : Room) (D : va_G) (tys : List (ClassId × FieldType)) (av : List Value) (W0 W1 : va_W) (sz : Nat) (r : Int32) : Prop :=
  Met l y ws rm (va_Pc av (kPre D tys W0 sz)) (va_Qi (fun (x : Int32) (_ : Unit) => x = r) (kB D W1) (va_A W0 sz)) 0 0 (va_A W0 sz)
abbrev kMv (l : Launch) (y : MethodName) (ws : List Cond) (rm : Room) (D : va_G) (tys : List (ClassId × FieldType)) (av : List Value) (W0 W1 : va_W) (sz : Nat) : Prop :=
  Met l y ws rm (va_Pc av (kPre D tys W0 sz)) (va_Qv (fun (_ : Unit) => True) (kB D W1) (va_A W0 sz)) 0 0 (va_A W0 sz)
def kBr (D : va_G) (W1 : va_W) (r : Nat) : Unit → Nat → State → Prop := fun _ a t => a = r ∧ va_P D vwCl W1 t.heap
abbrev kMr (l : Launch) (y : MethodName) (ws : List Cond) (rm : Room) (D : va_G) (tys : List (ClassId × FieldType)) (av : List Value) (W0 W1 : va_W) (sz : Nat) (r : Nat) : Prop :=
  Met l y ws rm (va_Pc av (kPre D tys W0 sz)) (va_Qr (fun (_ : Unit) => True) (kBr D W1 r) (va_A W0 sz)) 0 0 (va_A W0 sz)
/-- as the kit's Met.ofW, for the JDK's own methods too -/
theorem kOfW {l : Launch} {y : MethodName} {ws ws' : List Cond} {rm : Room} {Pc : Array Value → State → Prop} {Qc : Array Value → State → Outcome → State → Prop} {mc ms : Nat} {free : Addr → Prop} {cc : ByteArray} {maxL : Nat} {ret : Option FieldType}
    (hy : plainFor y = true) (hw : ws = Cond.code y cc maxL ret :: ws')
    (body : ∀ p e s m args below meth c s₁, BodyLoose p l y (headSpec ws rm) cc maxL ret e s m args below meth c s₁ → c.maxLocals = maxL → Pc args s →
      W p l e (headSpec ws rm).room s m args below meth c s.heap [] 0 0 (MQ below Qc args s mc ms free) (entryFrame m args maxL)) : Met l y ws rm Pc Qc mc ms free := by
  refine MetFree.of_bodySF (code := cc) (maxLocals := maxL) (ret := ret) hy ?_ ?_
  · intro args s m h hn
    obtain ⟨meth, c, h1, h2, h3, h4, h5, h6, -, -⟩ := Cond.code_spec hn (atoms_spec (ws := ws) h _ (by rw [hw]; exact List.mem_cons_self))
    exact ⟨meth, c, h1, h2, h3, h4, h5, h6⟩
  · intro p e s m args below meth c s₁ B hml hP _
    have hh0 : s₁.heap = s.heap := by rw [B.state]; rfl
    obtain ⟨t, a1, o, b1, b2, b3⟩ := body p e s m args below meth c s₁ B hml hP s₁ hh0 (Stand.of_body B)
    exact ⟨t, o, a1, b1, b2, ⟨b3.1, b3.2⟩⟩
theorem kEnter {l : Launch} {y : MethodName} {ws ws' : List Cond} {rm : Room} {D : va_G} {tys : List (ClassId × FieldType)} {av : List Value} {W0 : va_W} {sz : Nat} {Qc : Array Value → State → Outcome → State → Prop} {mc ms : Nat} {cc : ByteArray} {maxL : Nat} {ret : Option FieldType}
    (hy : plainFor y = true) (hw : ws = Cond.code y cc maxL ret :: ws') (hln : (lg_sl av).length ≤ maxL)
    (body : ∀ (p : Program) (e : Env) (s : State) (m : MethodId) (below : List Frame) (meth : Method) (c : Code) (args : Array Value), p.tables.exec = Jvm.exec → c.code = cc → meth.sig.returnType = ret → c.maxLocals = maxL → (∀ w ∈ ws, w.before args s = true) → s.vm.findClass y.cls = some m.cls → meth.locks = false → meth.name = y.name → va_K D vwCl tys s → kN s →
      ∀ A : Nat → Prop, va_A W0 sz = A → ∀ Q : State → Prop, MQ below Qc args s mc ms (va_A W0 sz) = Q → va_P D vwCl W0 s.heap → va_D A W0 → s.heap.size = sz → va_S A s.heap s.heap [] → (∀ q : Nat, s.heap.size ≤ q → A q) → ∀ ls : Array Slot, lv_has ls maxL (lv_args 0 av) →
      W p l e rm s m args below meth c s.heap [] 0 0 Q (F0 m 0 ls [])) :
    Met l y ws rm (va_Pc av (kPre D tys W0 sz)) Qc mc ms (va_A W0 sz) := by
  refine kOfW (cc := cc) (maxL := maxL) (ret := ret) hy hw ?_
  intro p e s m args below meth c s₁ B hml hv
  obtain ⟨rfl, hsz, hP, hK, hD0, hN⟩ := hv
  have hts := atoms_spec (ws := ws) B.pre
  have hown : s.vm.findClass y.cls = some m.cls := findClass_of_methodNamed B.named
  have hin : meth.name = y.name := (name_of_methodNamed B.named B.method).1
  have hl := lv_entry av (n := maxL) hln
  have h1 := body p e s m below meth c _ B.exec B.bytes B.returns hml hts hown B.notSynchronized hin hK hN _ rfl _ rfl hP (hD0.self (sz := sz)) hsz va_S.rf (fun q h => Or.inr (by rw [← hsz]; exact h)) _ hl
  rw [lg_entry_eq]
  exact h1
/-- places' new things -/
def kset : va_W → List Nat → va_W → va_W
  | ws, i :: is, e :: es => kset (ws.set i e) is es
  | ws, [], _ => ws
  | ws, _ :: _, [] => ws
theorem kset_get : ∀ (is : List Nat) (W1 ws : va_W) (k : Nat) (q : Nat × va_E), (kset ws is W1)[k]? = some q → (∃ j : Nat, is[j]? = some k ∧ W1[j]? = some q) ∨ (ws[k]? = some q ∧ ∀ j : Nat, j < W1.length → is[j]? ≠ some k)
  | [], W1, ws, k, q, h => by
    have h : ws[k]? = some q := by unfold kset at h; exact h
    exact Or.inr ⟨h, fun j _ => by simp⟩
  | i :: is, [], ws, k, q, h => by
    have h : ws[k]? = some q := by unfold kset at h; exact h
    exact Or.inr ⟨h, fun j hj => absurd hj (Nat.not_lt_zero _)⟩
  | i :: is, e :: es, ws, k, q, h => by
    unfold kset at h
    rcases kset_get is es (ws.set i e) k q h with ⟨j, h1, h2⟩ | ⟨h1, h2⟩
    · exact Or.inl ⟨j + 1, by simpa using h1, by simpa using h2⟩
    · by_cases hk : i = k
      · subst hk
        have hl : i < ws.length := by
          have := (List.getElem?_eq_some_iff.mp h1).1
          simpa using this
        rw [List.getElem?_set_self hl] at h1
        exact Or.inl ⟨0, rfl, by simpa using h1⟩
      · rw [List.getElem?_set_ne hk] at h1
        refine Or.inr ⟨h1, fun j hj => ?_⟩
        cases j with
        | zero => simpa using hk
        | succ j => simpa using h2 j (by simpa using hj)
theorem kcutP {D : va_G} {ws W0 : va_W} {H : Heap} (hP : va_P D vwCl ws H) (is : List Nat) (hC : is.map (fun i => ws[i]?) = W0.map some) : va_P D vwCl W0 H := by
  intro k q hq
  have h1 : (is.map (fun i => ws[i]?))[k]? = some (some q) := by rw [hC, List.getElem?_map, hq]; rfl
  rw [List.getElem?_map] at h1
  cases hi : is[k]? with
  | none => rw [hi] at h1; cases h1
  | some i => rw [hi] at h1; exact hP i q (Option.some.inj h1)
theorem kplace {ws W0 : va_W} {is : List Nat} (hC : is.map (fun i => ws[i]?) = W0.map some) {j : Nat} {q : Nat × va_E} (h : W0[j]? = some q) : ∃ i : Nat, is[j]? = some i ∧ ws[i]? = some q := by
  have h1 : (is.map (fun i => ws[i]?))[j]? = some (some q) := by rw [hC, List.getElem?_map, h]; rfl
  rw [List.getElem?_map] at h1
  cases hi : is[j]? with
  | none => rw [hi] at h1; cases h1
  | some i => rw [hi] at h1; exact ⟨i, rfl, Option.some.inj h1⟩
theorem kframe {A0 : Nat → Prop} {D : va_G} {ws W0 W1 : va_W} {H H1 : Heap} (hP : va_P D vwCl ws H) (hD : va_D A0 ws) (is : List Nat) (hC : is.map (fun i => ws[i]?) = W0.map some) (hF : W1.map (·.1) = W0.map (·.1))
    (hk : ∀ q : Nat, q < H.size → ¬ va_A W0 H.size q → H1[q]? = H[q]?) (hP1 : va_P D vwCl W1 H1) : va_P D vwCl (kset ws is W1) H1 ∧ va_D A0 (kset ws is W1) := by
  have hlen : W1.length = W0.length := by have := congrArg List.length hF; simpa using this
  have hfst : ∀ (j : Nat) (q : Nat × va_E), W1[j]? = some q → ∃ q0 : Nat × va_E, W0[j]? = some q0 ∧ q0.1 = q.1 := by
    intro j q hq
    have h1 : (W1.map (·.1))[j]? = some q.1 := by rw [List.getElem?_map, hq]; rfl
    rw [hF, List.getElem?_map] at h1
    cases hw : W0[j]? with
    | none => rw [hw] at h1; cases h1
    | some q0 => rw [hw] at h1; exact ⟨q0, rfl, Option.some.inj h1⟩
  have hadr : ∀ (k : Nat) (q : Nat × va_E), (kset ws is W1)[k]? = some q → ∃ q0 : Nat × va_E, ws[k]? = some q0 ∧ q0.1 = q.1 := by
    intro k q hq
    rcases kset_get is W1 ws k q hq with ⟨j, h1, h2⟩ | ⟨h1, -⟩
    · obtain ⟨q0, h3, h4⟩ := hfst j q h2
      obtain ⟨i, h5, h6⟩ := kplace hC h3
      rw [h1] at h5
      cases h5
      exact ⟨q0, h6, h4⟩
    · exact ⟨q, h1, rfl⟩
  refine ⟨fun k q hq => ?_, fun i j x y hx hy hxy => ?_, fun k q hq => ?_⟩
  · rcases kset_get is W1 ws k q hq with ⟨j, h1, h2⟩ | ⟨h1, h2⟩
    · exact hP1 j q h2
    · refine (hP k q h1).kept (hk q.1 ((hP k q h1).lt) ?_)
      rintro (⟨j, e9, h3⟩ | h3)
      · obtain ⟨i, h5, h6⟩ := kplace hC h3
        have hij := hD.1 k i q (q.1, e9) h1 h6 rfl
        subst hij
        exact h2 j (by rw [hlen]; exact (List.getElem?_eq_some_iff.mp h3).1) h5
      · exact absurd ((hP k q h1).lt) (Nat.not_lt.mpr h3)
  · obtain ⟨x0, h1, h2⟩ := hadr i x hx
    obtain ⟨y0, h3, h4⟩ := hadr j y hy
    exact hD.1 i j x0 y0 h1 h3 (by rw [h2, h4]; exact hxy)
  · obtain ⟨x0, h1, h2⟩ := hadr k q hq
    rw [← h2]
    exact hD.2 k x0 h1
theorem kPreV {D : va_G} {tys : List (ClassId × FieldType)} {ws W0 : va_W} {A0 : Nat → Prop} {H : Heap} {s : State} {C : String} {b : Nat} {As : List Value} (hK : va_K D vwCl tys s) (hN : kN s) (hP : va_P D vwCl ws H) (hD : va_D A0 ws) (is : List Nat) (hn : va_nd is = true) (hC : is.map (fun i => ws[i]?) = W0.map some)
    (hr : ∃ cell : Cell, H[b]? = some cell ∧ cell.vm.isStatics = false ∧ s.vm.findClass C = some cell.cls) : PreV s H C b (va_Pc (.ref b :: As) (kPre D tys W0 H.size)) As :=
  ⟨fun a U g mk q => by obtain ⟨q0, q1, q2, q3, q4, q5⟩ := q; exact ⟨q0, q1, q2, va_K.moved (u := U) (U := U.calling g mk a) (Vm.Alike.refl U.vm) q3, q4, kN.blind (u := U) (U := U.calling g mk a) rfl q5⟩, hr, fun U hU hW => ⟨rfl, by rw [hU], by rw [hU]; exact kcutP hP is hC, va_K.moved hW.alike hK, (hD.sub is hn hC).weaken (fun _ _ _ _ => trivial), hN.warm hW⟩⟩
theorem kPreS {D : va_G} {tys : List (ClassId × FieldType)} {ws W0 : va_W} {A0 : Nat → Prop} {H : Heap} {s : State} {As : List Value} (hK : va_K D vwCl tys s) (hN : kN s) (hP : va_P D vwCl ws H) (hD : va_D A0 ws) (is : List Nat) (hn : va_nd is = true) (hC : is.map (fun i => ws[i]?) = W0.map some) : PreS s H (va_Pc As (kPre D tys W0 H.size)) As :=
  ⟨fun a U g mk q => by obtain ⟨q0, q1, q2, q3, q4, q5⟩ := q; exact ⟨q0, q1, q2, va_K.moved (u := U) (U := U.calling g mk a) (Vm.Alike.refl U.vm) q3, q4, kN.blind (u := U) (U := U.calling g mk a) rfl q5⟩, fun U hU hW => ⟨rfl, by rw [hU], by rw [hU]; exact kcutP hP is hC, va_K.moved hW.alike hK, (hD.sub is hn hC).weaken (fun _ _ _ _ => trivial), hN.warm hW⟩⟩
theorem kPreVW {D : va_G} {tys : List (ClassId × FieldType)} {ws : va_W} {A0 : Nat → Prop} {H : Heap} {s : State} {C : String} {b : Nat} {As : List Value} (hK : va_K D vwCl tys s) (hN : kN s) (hP : va_P D vwCl ws H) (hD : va_D A0 ws)
    (hr : ∃ cell : Cell, H[b]? = some cell ∧ cell.vm.isStatics = false ∧ s.vm.findClass C = some cell.cls) : PreV s H C b (va_Pc (.ref b :: As) (kPre D tys ws H.size)) As :=
  ⟨fun a U g mk q => by obtain ⟨q0, q1, q2, q3, q4, q5⟩ := q; exact ⟨q0, q1, q2, va_K.moved (u := U) (U := U.calling g mk a) (Vm.Alike.refl U.vm) q3, q4, kN.blind (u := U) (U := U.calling g mk a) rfl q5⟩, hr, fun U hU hW => ⟨rfl, by rw [hU], by rw [hU]; exact hP, va_K.moved hW.alike hK, hD.weaken (fun _ _ _ _ => trivial), hN.warm hW⟩⟩
theorem kfull {A0 : Nat → Prop} {ws W1 : va_W} (hD : va_D A0 ws) (hF : W1.map (·.1) = ws.map (·.1)) : va_D A0 W1 := by
  have hfst : ∀ (j : Nat) (q : Nat × va_E), W1[j]? = some q → ∃ q0 : Nat × va_E, ws[j]? = some q0 ∧ q0.1 = q.1 := by
    intro j q hq
    have h1 : (W1.map (·.1))[j]? = some q.1 := by rw [List.getElem?_map, hq]; rfl
    rw [hF, List.getElem?_map] at h1
    cases hw : ws[j]? with
    | none => rw [hw] at h1; cases h1
    | some q0 => rw [hw] at h1; exact ⟨q0, rfl, Option.some.inj h1⟩
  refine ⟨fun i j x y hx hy hxy => ?_, fun k q hq => ?_⟩
  · obtain ⟨x0, h1, h2⟩ := hfst i x hx
    obtain ⟨y0, h3, h4⟩ := hfst j y hy
    exact hD.1 i j x0 y0 h1 h3 (by rw [h2, h4]; exact hxy)
  · obtain ⟨x0, h1, h2⟩ := hfst k q hq
    rw [← h2]
    exact hD.2 k x0 h1
theorem kfree {A0 : Nat → Prop} {ws : va_W} {H0 H : Heap} {locs : List Loc} (hD : va_D A0 ws) (hS : va_S A0 H0 H locs) (hA : ∀ q, H0.size ≤ q → A0 q) : ∀ q, va_A ws H.size q → A0 q := by
  rintro q (⟨k, e, h⟩ | h)
  · exact hD.2 k (q, e) h
  · exact hA q (Nat.le_trans hS.1 h)
section KR
variable {p : Program} {l : Launch} {e : Env} {R : Room} {s : State} {m : MethodId} {args : Array Value} {below : List Frame} {meth : Method} {c : Code} {H : Heap} {locs : List Loc} {cells slots : Nat} {Q : State → Prop}
variable {pc : Nat} {ls : Array Slot} {rest st0 : List Value} {a : Array Value} {A0 : Nat → Prop} {H0 : Heap} {D : va_G} {ws W0 W1 : va_W} {cc : ByteArray} {tys : List (ClassId × FieldType)}
theorem kCall_i {r : Int32} (hP : va_P D vwCl ws H) (hD : va_D A0 ws) (hS : va_S A0 H0 H locs) (hA : ∀ q, H0.size ≤ q → A0 q) (is : List Nat) (hC : is.map (fun i => ws[i]?) = W0.map some) (hF : W1.map (·.1) = W0.map (·.1))
    (hr : va_Run p l e R s m args below meth c H locs cells slots 0 0 (F0 m pc ls st0) rest (va_Qi (fun (x : Int32) (_ : Unit) => x = r) (kB D W1) (va_A W0 H.size) a) (va_A W0 H.size))
    (kk : ∀ (H1 : Heap) (locs1 : List Loc), va_P D vwCl (kset ws is W1) H1 → va_D A0 (kset ws is W1) → va_S A0 H0 H1 locs1 → W p l e R s m args below meth c H1 locs1 cells slots Q (F0 m (pc + 3) ls (.int r :: rest))) : W p l e R s m args below meth c H locs cells slots Q (F0 m pc ls st0) := by
  have hFc := va_free hD hS hA is hC
  refine va_calli hr hS (fun q _ h => hFc q h) hFc (fun x u t H1 locs1 ht hvm hx hB hz hk hS1 => ?_)
  subst hx
  have hB : va_P D vwCl W1 t.heap := hB
  rw [ht] at hB
  obtain ⟨h1, h2⟩ := kframe hP hD is hC hF hk hB
  exact kk H1 locs1 h1 h2 hS1
theorem kCall_v (hP : va_P D vwCl ws H) (hD : va_D A0 ws) (hS : va_S A0 H0 H locs) (hA : ∀ q, H0.size ≤ q → A0 q) (is : List Nat) (hC : is.map (fun i => ws[i]?) = W0.map some) (hF : W1.map (·.1) = W0.map (·.1))
    (hr : va_Run p l e R s m args below meth c H locs cells slots 0 0 (F0 m pc ls st0) rest (va_Qv (fun (_ : Unit) => True) (kB D W1) (va_A W0 H.size) a) (va_A W0 H.size))
    (kk : ∀ (H1 : Heap) (locs1 : List Loc), va_P D vwCl (kset ws is W1) H1 → va_D A0 (kset ws is W1) → va_S A0 H0 H1 locs1 → W p l e R s m args below meth c H1 locs1 cells slots Q (F0 m (pc + 3) ls rest)) : W p l e R s m args below meth c H locs cells slots Q (F0 m pc ls st0) := by
  have hFc := va_free hD hS hA is hC
  refine va_callv hr hS (fun q _ h => hFc q h) hFc (fun u t H1 locs1 ht hvm hx hB hz hk hS1 => ?_)
  have hB : va_P D vwCl W1 t.heap := hB
  rw [ht] at hB
  obtain ⟨h1, h2⟩ := kframe hP hD is hC hF hk hB
  exact kk H1 locs1 h1 h2 hS1
theorem kCall_r {r : Nat} (hP : va_P D vwCl ws H) (hD : va_D A0 ws) (hS : va_S A0 H0 H locs) (hA : ∀ q, H0.size ≤ q → A0 q) (is : List Nat) (hC : is.map (fun i => ws[i]?) = W0.map some) (hF : W1.map (·.1) = W0.map (·.1))
    (hr : va_Run p l e R s m args below meth c H locs cells slots 0 0 (F0 m pc ls st0) rest (va_Qr (fun (_ : Unit) => True) (kBr D W1 r) (va_A W0 H.size) a) (va_A W0 H.size))
    (kk : ∀ (H1 : Heap) (locs1 : List Loc), va_P D vwCl (kset ws is W1) H1 → va_D A0 (kset ws is W1) → va_S A0 H0 H1 locs1 → W p l e R s m args below meth c H1 locs1 cells slots Q (F0 m (pc + 3) ls (.ref r :: rest))) : W p l e R s m args below meth c H locs cells slots Q (F0 m pc ls st0) := by
  have hFc := va_free hD hS hA is hC
  refine va_callr hr hS (fun q _ h => hFc q h) hFc (fun u ra t H1 locs1 ht hvm hx hB hz hk hS1 => ?_)
  obtain ⟨rfl, hB⟩ : ra = r ∧ va_P D vwCl W1 t.heap := hB
  rw [ht] at hB
  obtain ⟨h1, h2⟩ := kframe hP hD is hC hF hk hB
  exact kk H1 locs1 h1 h2 hS1
theorem kCallW_i {r : Int32} (hD : va_D A0 ws) (hS : va_S A0 H0 H locs) (hA : ∀ q, H0.size ≤ q → A0 q) (hF : W1.map (·.1) = ws.map (·.1))
    (hr : va_Run p l e R s m args below meth c H locs cells slots 0 0 (F0 m pc ls st0) rest (va_Qi (fun (x : Int32) (_ : Unit) => x = r) (kB D W1) (va_A ws H.size) a) (va_A ws H.size))
    (kk : ∀ (H1 : Heap) (locs1 : List Loc), va_P D vwCl W1 H1 → va_D A0 W1 → va_S A0 H0 H1 locs1 → W p l e R s m args below meth c H1 locs1 cells slots Q (F0 m (pc + 3) ls (.int r :: rest))) : W p l e R s m args below meth c H locs cells slots Q (F0 m pc ls st0) := by
  have hFc := kfree hD hS hA
  refine va_calli hr hS (fun q _ h => hFc q h) hFc (fun x u t H1 locs1 ht hvm hx hB hz hk hS1 => ?_)
  subst hx
  have hB : va_P D vwCl W1 t.heap := hB
  rw [ht] at hB
  exact kk H1 locs1 hB (kfull hD hF) hS1
theorem kCallW_v (hD : va_D A0 ws) (hS : va_S A0 H0 H locs) (hA : ∀ q, H0.size ≤ q → A0 q) (hF : W1.map (·.1) = ws.map (·.1))
    (hr : va_Run p l e R s m args below meth c H locs cells slots 0 0 (F0 m pc ls st0) rest (va_Qv (fun (_ : Unit) => True) (kB D W1) (va_A ws H.size) a) (va_A ws H.size))
    (kk : ∀ (H1 : Heap) (locs1 : List Loc), va_P D vwCl W1 H1 → va_D A0 W1 → va_S A0 H0 H1 locs1 → W p l e R s m args below meth c H1 locs1 cells slots Q (F0 m (pc + 3) ls rest)) : W p l e R s m args below meth c H locs cells slots Q (F0 m pc ls st0) := by
  have hFc := kfree hD hS hA
  refine va_callv hr hS (fun q _ h => hFc q h) hFc (fun u t H1 locs1 ht hvm hx hB hz hk hS1 => ?_)
  have hB : va_P D vwCl W1 t.heap := hB
  rw [ht] at hB
  exact kk H1 locs1 hB (kfull hD hF) hS1
theorem kCallW_r {r : Nat} (hD : va_D A0 ws) (hS : va_S A0 H0 H locs) (hA : ∀ q, H0.size ≤ q → A0 q) (hF : W1.map (·.1) = ws.map (·.1))
    (hr : va_Run p l e R s m args below meth c H locs cells slots 0 0 (F0 m pc ls st0) rest (va_Qr (fun (_ : Unit) => True) (kBr D W1 r) (va_A ws H.size) a) (va_A ws H.size))
    (kk : ∀ (H1 : Heap) (locs1 : List Loc), va_P D vwCl W1 H1 → va_D A0 W1 → va_S A0 H0 H1 locs1 → W p l e R s m args below meth c H1 locs1 cells slots Q (F0 m (pc + 3) ls (.ref r :: rest))) : W p l e R s m args below meth c H locs cells slots Q (F0 m pc ls st0) := by
  have hFc := kfree hD hS hA
  refine va_callr hr hS (fun q _ h => hFc q h) hFc (fun u ra t H1 locs1 ht hvm hx hB hz hk hS1 => ?_)
  obtain ⟨rfl, hB⟩ : ra = r ∧ va_P D vwCl W1 t.heap := hB
  rw [ht] at hB
  exact kk H1 locs1 hB (kfull hD hF) hS1
theorem kRet_r {sz r : Nat} {rt : FieldType} (hx : p.tables.exec = Jvm.exec) (hb : c.code = cc) (hr : meth.sig.returnType = some (.array rt)) (hlocks : meth.locks = false) (hP : va_P D vwCl W1 H) (hS : va_S (va_A W0 sz) s.heap H locs) (hdg : decode cc pc = .ok (.areturn, 1)) :
    W p l e R s m args below meth c H locs 0 0 (MQ below (va_Qr (fun (_ : Unit) => True) (kBr D W1 r) (va_A W0 sz)) args s 0 0 (va_A W0 sz)) (F0 m pc ls [.ref r]) :=
  W.aret (v := .ref r) hx hb hr (Or.inr ⟨rt, rfl⟩) (Or.inr ⟨r, rfl⟩) (fun t ht hW => ⟨⟨(), r, rfl, trivial, rfl, by rw [ht]; exact hP⟩, hS.F ht⟩) hS.2.2 hdg hlocks
theorem kRet_i {sz : Nat} {v r : Int32} (hx : p.tables.exec = Jvm.exec) (hb : c.code = cc) (hr : meth.sig.returnType = some .int) (hlocks : meth.locks = false) (hP : va_P D vwCl W1 H) (hS : va_S (va_A W0 sz) s.heap H locs) (hdg : decode cc pc = .ok (.ireturn, 1)) (he : v = r) :
    W p l e R s m args below meth c H locs 0 0 (MQ below (va_Qi (fun (x : Int32) (_ : Unit) => x = r) (kB D W1) (va_A W0 sz)) args s 0 0 (va_A W0 sz)) (F0 m pc ls [.int v]) := by
  subst he
  exact W.iret (v := v) hx hb hr (fun t ht hW => ⟨⟨v, (), rfl, rfl, by show va_P D vwCl W1 t.heap; rw [ht]; exact hP⟩, hS.F ht⟩) hS.2.2 hdg hlocks
theorem kRet_z {sz : Nat} {v r : Int32} (hx : p.tables.exec = Jvm.exec) (hb : c.code = cc) (hr : meth.sig.returnType = some .boolean) (hlocks : meth.locks = false) (hP : va_P D vwCl W1 H) (hS : va_S (va_A W0 sz) s.heap H locs) (hdg : decode cc pc = .ok (.ireturn, 1)) (he : v = r) (h01 : narrow .boolean (.int v) = .int v) :
    W p l e R s m args below meth c H locs 0 0 (MQ below (va_Qi (fun (x : Int32) (_ : Unit) => x = r) (kB D W1) (va_A W0 sz)) args s 0 0 (va_A W0 sz)) (F0 m pc ls [.int v]) := by
  subst he
  exact W.zret (v := v) hx hb hr h01 (fun t ht hW => ⟨⟨v, (), rfl, rfl, by show va_P D vwCl W1 t.heap; rw [ht]; exact hP⟩, hS.F ht⟩) hS.2.2 hdg hlocks
theorem kRet_v {sz : Nat} (hx : p.tables.exec = Jvm.exec) (hb : c.code = cc) (hr : meth.sig.returnType = none) (hlocks : meth.locks = false) (hP : va_P D vwCl W1 H) (hS : va_S (va_A W0 sz) s.heap H locs) (hdg : decode cc pc = .ok (.return_, 1)) :
    W p l e R s m args below meth c H locs 0 0 (MQ below (va_Qv (fun (_ : Unit) => True) (kB D W1) (va_A W0 sz)) args s 0 0 (va_A W0 sz)) (F0 m pc ls []) :=
  W.vret hx hb hr (fun t ht hW => ⟨⟨(), rfl, trivial, by show va_P D vwCl W1 t.heap; rw [ht]; exact hP⟩, hS.F ht⟩) hS.2.2 hdg hlocks
/-- the top named anew -/
theorem k_as {x y : Int32} (he : x = y) (k : W p l e R s m args below meth c H locs cells slots Q (F0 m pc ls (.int y :: rest))) : W p l e R s m args below meth c H locs cells slots Q (F0 m pc ls (.int x :: rest)) := by
  subst he; exact k
theorem k_iald {ar : Nat} (hx : p.tables.exec = Jvm.exec) (hb : c.code = cc) (hK : va_K D vwCl tys s) (hP : va_P D vwCl ws H) (q0 t0 : Nat) {cA : ClassId} {n : Nat} {f : Nat → Int32} (ha : ws[q0]? = some (ar, .inl (cA, n, .inl f))) (ht : tys[t0]? = some (cA, .int)) {i : Nat} (hi : i < n) (hn : n < 2 ^ 31) (hdg : decode cc pc = .ok (.iaload, 1))
    (kk : W p l e R s m args below meth c H locs cells slots Q (F0 m (pc + 1) ls (.int (f i) :: rest))) : W p l e R s m args below meth c H locs cells slots Q (F0 m pc ls (.int (nI i) :: .ref ar :: rest)) := by
  refine va_iald hx hb hK hP q0 t0 ha ht (vp_in_nI hi hn) hdg ?_
  rw [nI_clamp (Nat.lt_trans hi hn)]
  exact kk
theorem k_zald {ar : Nat} (hx : p.tables.exec = Jvm.exec) (hb : c.code = cc) (hK : va_K D vwCl tys s) (hP : va_P D vwCl ws H) (q0 t0 : Nat) {cA : ClassId} {n : Nat} {f : Nat → Int32} (ha : ws[q0]? = some (ar, .inl (cA, n, .inl f))) (ht : tys[t0]? = some (cA, .boolean)) {i : Nat} (hi : i < n) (hn : n < 2 ^ 31) (hdg : decode cc pc = .ok (.baload, 1))
    (kk : W p l e R s m args below meth c H locs cells slots Q (F0 m (pc + 1) ls (.int (f i) :: rest))) : W p l e R s m args below meth c H locs cells slots Q (F0 m pc ls (.int (nI i) :: .ref ar :: rest)) := by
  refine va_zald hx hb hK hP q0 t0 ha ht (vp_in_nI hi hn) hdg ?_
  rw [nI_clamp (Nat.lt_trans hi hn)]
  exact kk
theorem k_aald {ar : Nat} (hx : p.tables.exec = Jvm.exec) (hb : c.code = cc) (hK : va_K D vwCl tys s) (hP : va_P D vwCl ws H) (q0 t0 : Nat) {cA : ClassId} {ty : FieldType} {n : Nat} {g : Nat → Nat} (ha : ws[q0]? = some (ar, .inl (cA, n, .inr (.inr (.inr (.inr (fun i => some (g i)))))))) (ht : tys[t0]? = some (cA, .array ty)) {i : Nat} (hi : i < n) (hn : n < 2 ^ 31) (hdg : decode cc pc = .ok (.aaload, 1))
    (kk : W p l e R s m args below meth c H locs cells slots Q (F0 m (pc + 1) ls (.ref (g i) :: rest))) : W p l e R s m args below meth c H locs cells slots Q (F0 m pc ls (.int (nI i) :: .ref ar :: rest)) := by
  have hcl : (nI i).toNatClampNeg = i := nI_clamp (Nat.lt_trans hi hn)
  have hin : vp_in (nI i) n := vp_in_nI hi hn
  refine W.aald (v := .ref (g i)) (ty := .array ty) hx hb (hP q0 _ ha) ((hK.2 t0 _ ht).1 n (fun j => va_rf (some (g j)))) rfl (fun q => by cases q) (by show ¬ (nI i < 0 ∨ (arrV _ _ _).slots.size ≤ _); rw [arrV_size]; exact hin) (by show (arrV _ _ _).slots[_]? = _; rw [hcl, arrV_read _ _ hi]; rfl) rfl rfl hdg kk
theorem k_iast {ar : Nat} (hx : p.tables.exec = Jvm.exec) (hb : c.code = cc) (hK : va_K D vwCl tys s) (hP : va_P D vwCl ws H) (hD : va_D A0 ws) (hS : va_S A0 H0 H locs) (q0 t0 : Nat) {cA : ClassId} {n : Nat} {f : Nat → Int32} (ha : ws[q0]? = some (ar, .inl (cA, n, .inl f))) (ht : tys[t0]? = some (cA, .int)) {i : Nat} {x : Int32} (hi : i < n) (hn : n < 2 ^ 31) (hdg : decode cc pc = .ok (.iastore, 1))
    (kk : ∀ (H1 : Heap) (locs1 : List Loc), va_P D vwCl (ws.set q0 (ar, .inl (cA, n, .inl (upd f i x)))) H1 → va_D A0 (ws.set q0 (ar, .inl (cA, n, .inl (upd f i x)))) → va_S A0 H0 H1 locs1 → W p l e R s m args below meth c H1 locs1 cells slots Q (F0 m (pc + 1) ls rest)) : W p l e R s m args below meth c H locs cells slots Q (F0 m pc ls (.int x :: .int (nI i) :: .ref ar :: rest)) := by
  refine va_iast hx hb hK hP hD hS q0 t0 ha ht (vp_in_nI hi hn) hdg ?_
  rw [nI_clamp (Nat.lt_trans hi hn)]
  exact kk
theorem k_zast {ar : Nat} (hx : p.tables.exec = Jvm.exec) (hb : c.code = cc) (hK : va_K D vwCl tys s) (hP : va_P D vwCl ws H) (hD : va_D A0 ws) (hS : va_S A0 H0 H locs) (q0 t0 : Nat) {cA : ClassId} {n : Nat} {f : Nat → Int32} (ha : ws[q0]? = some (ar, .inl (cA, n, .inl f))) (ht : tys[t0]? = some (cA, .boolean)) {i : Nat} {x x' : Int32} (hi : i < n) (hn : n < 2 ^ 31) (hv : vp_nar .boolean x = x') (hdg : decode cc pc = .ok (.bastore, 1))
    (kk : ∀ (H1 : Heap) (locs1 : List Loc), va_P D vwCl (ws.set q0 (ar, .inl (cA, n, .inl (upd f i x')))) H1 → va_D A0 (ws.set q0 (ar, .inl (cA, n, .inl (upd f i x')))) → va_S A0 H0 H1 locs1 → W p l e R s m args below meth c H1 locs1 cells slots Q (F0 m (pc + 1) ls rest)) : W p l e R s m args below meth c H locs cells slots Q (F0 m pc ls (.int x :: .int (nI i) :: .ref ar :: rest)) := by
  subst hv
  refine va_zast hx hb hK hP hD hS q0 t0 ha ht (vp_in_nI hi hn) hdg ?_
  rw [nI_clamp (Nat.lt_trans hi hn)]
  exact kk
end KR
theorem k_inc (z : Nat) : nI z + Int32.ofInt 1 = nI (z + 1) := nI_1 z
end
section
/-! ===== the hall in numbers ===== -/
def mFd (x y : Int32) : Int32 := if 0 ≤ x ^^^ y then x / y else if x / y * y = x then x / y else x / y - 1
def mFm (x y : Int32) : Int32 := if 0 ≤ x ^^^ y then x - x / y * y else if x - x / y * y = 0 then x - x / y * y else x - x / y * y + y
def mMax (x y : Int32) : Int32 := if x < y then y else x
def mMin (x y : Int32) : Int32 := if y < x then y else x
def mHold (v lo hi : Int32) : Int32 := mMax lo (mMin hi v)
def mSum (g : Nat → Int32) : Nat → Int32
  | 0 => nI 0
  | n + 1 => mSum g n + g n
def mFl (n : Nat) (g f : Nat → Int32) : Nat → Int32 := fun j => if j < n then g j else f j
def mEr (t e sp : Int32) : Int32 := mHold (e + (t - sp)) (-20000) (nI 20000)
def mWa (gp gi t sp e : Int32) : Int32 := mHold (mFd (gp * (t - sp) + mFd (gi * e) (nI 100)) (nI 100)) (nI 0) (nI 100)
def mRun (F g : Nat → Int32) : Nat → Int32 := mSum (fun f => if F f = 0 then g f else 0)
def mRa (F g : Nat → Int32) (w : Int32) : Int32 := if mRun F g 8 = mSum g 8 then w else if mRun F g 8 = 0 then nI 100 else mMin (nI 100) (mFd (w * mSum g 8) (mRun F g 8))
def mGd (g dm : Nat → Int32) : Nat → Int32
  | 0 => nI 0
  | n + 1 => if g n ≤ 0 then mGd g dm n else mMax (mGd g dm n) (dm n)
def mTn (t lo am co : Int32) : Int32 := t + lo + mFd (am - t) (nI 64) - co / nI 100
def mE1 (T E Se : Nat → Int32) : Nat → Int32 := fun z => mEr (T z) (E z) (Se z)
def mD1 (gp gi : Int32) (T E Se F : Nat → Int32) (Ef : Nat → Nat → Int32) : Nat → Int32 := fun z => mRa F (fun f => Ef f z) (mWa gp gi (T z) (Se z) (mEr (T z) (E z) (Se z)))
def mG1 (Ef : Nat → Nat → Int32) (Dm : Nat → Int32) : Nat → Int32 := fun f => mGd (Ef f) Dm 6
def mS1 (F K : Nat → Int32) : Nat → Int32 := fun f => if F f = 0 then K f else nI 0
def mCo (Ef : Nat → Nat → Int32) (S : Nat → Int32) (z : Nat) : Nat → Int32 := mSum (fun f => Ef f z * S f)
def mT1 (am : Int32) (T Lo : Nat → Int32) (Ef : Nat → Nat → Int32) (S : Nat → Int32) : Nat → Int32 := fun z => mTn (T z) (Lo z) am (mCo Ef S z 8)
theorem mFl_0 (g f : Nat → Int32) : mFl 0 g f = f := by funext j; simp [mFl]
theorem mFl_up (n : Nat) (g f : Nat → Int32) : upd (mFl n g f) n (g n) = mFl (n + 1) g f := by
  funext j
  by_cases h : j = n
  · subst h; simp [upd, mFl]
  · by_cases h2 : j < n
    · simp [upd, mFl, h, h2, Nat.lt_succ_of_lt h2]
    · simp [upd, mFl, h, h2, show ¬ j < n + 1 by omega]
theorem mFl_at (n : Nat) (g f : Nat → Int32) : mFl n g f n = f n := by simp [mFl]
theorem mFl_lt {n j : Nat} (g f : Nat → Int32) (h : j < n) : mFl n g f j = g j := by simp [mFl, h]
theorem mFl_ge {n j : Nat} (g f : Nat → Int32) (h : n ≤ j) : mFl n g f j = f j := by simp [mFl, Nat.not_lt.mpr h]
theorem mSum_s (g : Nat → Int32) (n : Nat) : mSum g (n + 1) = mSum g n + g n := rfl
theorem mRun_t (F g : Nat → Int32) (n : Nat) (h : F n = 0) : mRun F g (n + 1) = mRun F g n + g n := by
  show mSum _ n + (if F n = 0 then g n else 0) = _
  rw [if_pos h]; rfl
theorem mRun_f (F g : Nat → Int32) (n : Nat) (h : ¬ F n = 0) : mRun F g (n + 1) = mRun F g n := by
  show mSum _ n + (if F n = 0 then g n else 0) = _
  rw [if_neg h, Int32.add_zero]; rfl
theorem mGd_t (g dm : Nat → Int32) (n : Nat) (h : g n ≤ 0) : mGd g dm (n + 1) = mGd g dm n := by
  show (if g n ≤ 0 then _ else _) = _
  rw [if_pos h]
theorem mGd_f (g dm : Nat → Int32) (n : Nat) (h : ¬ g n ≤ 0) : mGd g dm (n + 1) = mMax (mGd g dm n) (dm n) := by
  show (if g n ≤ 0 then _ else _) = _
  rw [if_neg h]
def nE (T E Se : Nat → Int32) : Nat → Int32 := mFl 6 (mE1 T E Se) E
def nD (gp gi : Int32) (T E Dm F Se : Nat → Int32) (Ef : Nat → Nat → Int32) : Nat → Int32 := mFl 6 (mD1 gp gi T E Se F Ef) Dm
def nC (gp gi : Int32) (T E Dm F : Nat → Int32) (C : Nat → Nat → Int32) (la : Nat) (Se : Nat → Int32) (Ef : Nat → Nat → Int32) : Nat → Nat → Int32 := va_up C ((la + 1) % 9) (mFl 8 (mG1 Ef (nD gp gi T E Dm F Se Ef)) (C ((la + 1) % 9)))
def nS (gp gi : Int32) (T E Dm F S : Nat → Int32) (C : Nat → Nat → Int32) (la : Nat) (Se : Nat → Int32) (Ef : Nat → Nat → Int32) (dl : Nat) : Nat → Int32 := mFl 8 (mS1 F (nC gp gi T E Dm F C la Se Ef (((la + 1) % 9 + 9 - dl) % 9))) S
def nT (gp gi am : Int32) (T E Dm F S : Nat → Int32) (C : Nat → Nat → Int32) (la : Nat) (Lo Se : Nat → Int32) (Ef : Nat → Nat → Int32) (dl : Nat) : Nat → Int32 := mFl 6 (mT1 am T Lo Ef (nS gp gi T E Dm F S C la Se Ef dl)) T
theorem va_up_id {α : Type} (f : Nat → α) (k : Nat) : va_up f k (f k) = f := by
  funext j
  by_cases h : j = k
  · subst h; simp [va_up]
  · simp [va_up, h]
theorem mNext {n : Nat} (h : n < 20) : mFm (nI n) (nI 9) = nI (n % 9) := by
  have key : ∀ a : Fin 20, mFm (nI a.val) (nI 9) = nI (a.val % 9) := by decide +kernel
  exact key ⟨n, h⟩
theorem mAgo {la k : Nat} (h1 : la < 9) (h2 : k < 9) : mFm (nI la - nI k) (nI 9) = nI ((la + 9 - k) % 9) := by
  have key : ∀ a : Fin 9, ∀ b : Fin 9, mFm (nI a.val - nI b.val) (nI 9) = nI ((a.val + 9 - b.val) % 9) := by decide +kernel
  exact key ⟨la, h1⟩ ⟨k, h2⟩
/-! ===== worlds ===== -/
def kT (cI cZ cO cJ : ClassId) : List (ClassId × FieldType) := [(cI, .int), (cZ, .boolean), (cO, .array .int), (cJ, .long)]
def rws (cI : ClassId) (w n : Nat) (r : Nat → Nat) (C : Nat → Nat → Int32) : va_W := (List.range n).map (fun k => (r k, .inl (cI, w, .inl (C k))))
theorem rws_get {cI : ClassId} {w n : Nat} {r : Nat → Nat} {C : Nat → Nat → Int32} {j : Nat} (hj : j < n) : (rws cI w n r C)[j]? = some (r j, .inl (cI, w, .inl (C j))) := by
  unfold rws
  rw [List.getElem?_map, List.getElem?_range hj]
  rfl
theorem rws_len {cI : ClassId} {w n : Nat} {r : Nat → Nat} {C : Nat → Nat → Int32} : (rws cI w n r C).length = n := by simp [rws]
theorem rws_at {pre post : va_W} {cI : ClassId} {w n : Nat} {r : Nat → Nat} {C : Nat → Nat → Int32} {j N : Nat} (hN : pre.length = N) (hj : j < n) : (pre ++ (rws cI w n r C ++ post))[N + j]? = some (r j, .inl (cI, w, .inl (C j))) := by
  subst hN
  rw [List.getElem?_append_right (by omega), Nat.add_sub_cancel_left, List.getElem?_append_left (by rw [rws_len]; exact hj), rws_get hj]
theorem rws_up {cI : ClassId} {w n : Nat} {r : Nat → Nat} {C : Nat → Nat → Int32} {j : Nat} {X : Nat → Int32} (hj : j < n) : (rws cI w n r C).set j (r j, .inl (cI, w, .inl X)) = rws cI w n r (va_up C j X) := by
  apply List.ext_getElem?
  intro k
  by_cases hk : k < n
  · by_cases e : j = k
    · subst e
      rw [List.getElem?_set_self (by rw [rws_len]; exact hk), rws_get hk, va_up_self]
    · rw [List.getElem?_set_ne e, rws_get hk, rws_get hk, va_up_ne _ _ (Ne.symm e)]
  · rw [List.getElem?_eq_none (by rw [List.length_set, rws_len]; omega), List.getElem?_eq_none (by rw [rws_len]; omega)]
theorem rws_set {pre post : va_W} {cI : ClassId} {w n : Nat} {r : Nat → Nat} {C : Nat → Nat → Int32} {j N : Nat} {X : Nat → Int32} (hN : pre.length = N) (hj : j < n) : (pre ++ (rws cI w n r C ++ post)).set (N + j) (r j, .inl (cI, w, .inl X)) = pre ++ (rws cI w n r (va_up C j X) ++ post) := by
  subst hN
  rw [List.set_append_right _ _ (by omega), Nat.add_sub_cancel_left, List.set_append_left _ _ (by rw [rws_len]; exact hj), rws_up hj]
/-- a hall at a 0 .. a 15 and the settings at b 0 .. b 11 -/
def wH (cI cZ cO : ClassId) (a b : Nat → Nat) (T E Dm F S : Nat → Int32) (C : Nat → Nat → Int32) (la : Nat) (Lo Se : Nat → Int32) (Ef : Nat → Nat → Int32) (gp gi am li : Int32) (dl : Nat) : va_W :=
  [(a 0, .inr (0, [.ref (a 1), .ref (a 2), .ref (a 3), .ref (a 4), .ref (a 5), .ref (a 6), .int (nI la)])), (a 1, .inl (cI, 6, .inl T)), (a 2, .inl (cI, 6, .inl E)), (a 3, .inl (cI, 6, .inl Dm)), (a 4, .inl (cZ, 8, .inl F)), (a 5, .inl (cI, 8, .inl S)), (a 6, .inl (cO, 9, .inr (.inr (.inr (.inr (fun i => some (a (7 + i)))))))),
    (b 0, .inr (1, [.ref (b 1), .ref (b 2), .ref (b 3), .int gp, .int gi, .int am, .int li, .int (nI dl)])), (b 1, .inl (cI, 6, .inl Lo)), (b 2, .inl (cI, 6, .inl Se)), (b 3, .inl (cO, 8, .inr (.inr (.inr (.inr (fun i => some (b (4 + i))))))))]
  ++ (rws cI 8 9 (fun k => a (7 + k)) C ++ (rws cI 6 8 (fun k => b (4 + k)) Ef ++ []))
section WH
variable {cI cZ cO : ClassId} {a b : Nat → Nat} {T E Dm F S : Nat → Int32} {C : Nat → Nat → Int32} {la : Nat} {Lo Se : Nat → Int32} {Ef : Nat → Nat → Int32} {gp gi am li : Int32} {dl : Nat} {j : Nat}
theorem wH_ring (hj : j < 9) : (wH cI cZ cO a b T E Dm F S C la Lo Se Ef gp gi am li dl)[11 + j]? = some (a (7 + j), .inl (cI, 8, .inl (C j))) := rws_at rfl hj
theorem wH_ring_set {X : Nat → Int32} (hj : j < 9) : (wH cI cZ cO a b T E Dm F S C la Lo Se Ef gp gi am li dl).set (11 + j) (a (7 + j), .inl (cI, 8, .inl X)) = wH cI cZ cO a b T E Dm F S (va_up C j X) la Lo Se Ef gp gi am li dl := rws_set rfl hj
theorem wH_eff (hj : j < 8) : (wH cI cZ cO a b T E Dm F S C la Lo Se Ef gp gi am li dl)[20 + j]? = some (b (4 + j), .inl (cI, 6, .inl (Ef j))) := by
  unfold wH
  rw [← List.append_assoc]
  exact rws_at (by rw [List.length_append, rws_len]; rfl) hj
end WH
end
section
set_option maxRecDepth 20000 in
theorem ggX2_init_X1_init : GoodIn wsX2_init wsX1_init := goodIn_r _ [18, 19, 2, 3, 13, 20, 21, 22, 23, 24, 25, 26, 27, 28, 42, 43, 44, 45, 46, 47, 48, 49] (by decide +kernel) (by decide +kernel)
set_option maxRecDepth 20000 in
theorem gX2_init_X1_init : GoodIn wsX2_init (wsX1_init) := ggX2_init_X1_init
set_option maxRecDepth 20000 in
theorem ggX2_init_X0_init : GoodIn wsX2_init wsX0_init := goodIn_r _ [31, 32, 2, 3, 13, 33, 34, 35, 36, 37, 38, 39, 40, 41, 55, 56, 57, 58, 59, 60, 61] (by decide +kernel) (by decide +kernel)
set_option maxRecDepth 20000 in
theorem gX2_init_X0_init : GoodIn wsX2_init (wsX0_init) := ggX2_init_X0_init
theorem dX2_init_0 : decode cX2_init 0 = .ok (.aload_n 0, 1) := by decide +kernel
theorem dX2_init_1 : decode cX2_init 1 = .ok (.invokespecial 1, 3) := by decide +kernel
theorem dX2_init_4 : decode cX2_init 4 = .ok (.aload_n 0, 1) := by decide +kernel
theorem dX2_init_5 : decode cX2_init 5 = .ok (.new 7, 3) := by decide +kernel
theorem dX2_init_8 : decode cX2_init 8 = .ok (.dup, 1) := by decide +kernel
theorem dX2_init_9 : decode cX2_init 9 = .ok (.invokespecial 9, 3) := by decide +kernel
theorem dX2_init_12 : decode cX2_init 12 = .ok (.putfield 10, 3) := by decide +kernel
theorem dX2_init_15 : decode cX2_init 15 = .ok (.aload_n 0, 1) := by decide +kernel
theorem dX2_init_16 : decode cX2_init 16 = .ok (.new 16, 3) := by decide +kernel
theorem dX2_init_19 : decode cX2_init 19 = .ok (.dup, 1) := by decide +kernel
theorem dX2_init_20 : decode cX2_init 20 = .ok (.invokespecial 18, 3) := by decide +kernel
theorem dX2_init_23 : decode cX2_init 23 = .ok (.putfield 19, 3) := by decide +kernel
theorem dX2_init_26 : decode cX2_init 26 = .ok (.aload_n 0, 1) := by decide +kernel
theorem dX2_init_27 : decode cX2_init 27 = .ok (.new 16, 3) := by decide +kernel
theorem dX2_init_30 : decode cX2_init 30 = .ok (.dup, 1) := by decide +kernel
theorem dX2_init_31 : decode cX2_init 31 = .ok (.invokespecial 18, 3) := by decide +kernel
theorem dX2_init_34 : decode cX2_init 34 = .ok (.putfield 23, 3) := by decide +kernel
theorem dX2_init_37 : decode cX2_init 37 = .ok (.aload_n 0, 1) := by decide +kernel
theorem dX2_init_38 : decode cX2_init 38 = .ok (.bipush 6, 2) := by decide +kernel
theorem dX2_init_40 : decode cX2_init 40 = .ok (.newarray .int, 2) := by decide +kernel
theorem dX2_init_42 : decode cX2_init 42 = .ok (.putfield 26, 3) := by decide +kernel
theorem dX2_init_45 : decode cX2_init 45 = .ok (.aload_n 0, 1) := by decide +kernel
theorem dX2_init_46 : decode cX2_init 46 = .ok (.iconst 0, 1) := by decide +kernel
theorem dX2_init_47 : decode cX2_init 47 = .ok (.putfield 30, 3) := by decide +kernel
theorem dX2_init_50 : decode cX2_init 50 = .ok (.return_, 1) := by decide +kernel
set_option maxRecDepth 20000 in
theorem ggX2_setLoad_X2_requireZone : GoodIn wsX2_setLoad wsX2_requireZone := goodIn_ca (goodIn_r _ [6, 7, 8, 5, 9, 10, 11] (by decide +kernel) (by decide +kernel)) (goodIn_sub (fun _ h => List.mem_cons_of_mem _ (List.mem_append_right _ h)) (by decide +kernel))
set_option maxRecDepth 20000 in
theorem gX2_setLoad_X2_requireZone : GoodIn wsX2_setLoad (va_wsS RX2 34 yX2_requireZone wsX2_requireZone) := goodIn_app (goodIn_of _ (by decide +kernel)) ggX2_setLoad_X2_requireZone
set_option maxRecDepth 20000 in
theorem ggX2_setLoad_X2_requireWithin : GoodIn wsX2_setLoad wsX2_requireWithin := goodIn_ca (goodIn_r _ [9, 10, 11] (by decide +kernel) (by decide +kernel)) (goodIn_sub (fun _ h => List.mem_cons_of_mem _ (List.mem_append_right _ h)) (by decide +kernel))
set_option maxRecDepth 20000 in
theorem gX2_setLoad_X2_requireWithin : GoodIn wsX2_setLoad (va_wsS RX2 38 yX2_requireWithin wsX2_requireWithin) := goodIn_app (goodIn_of _ (by decide +kernel)) ggX2_setLoad_X2_requireWithin
theorem dX2_setLoad_0 : decode cX2_setLoad 0 = .ok (.iload_n 1, 1) := by decide +kernel
theorem dX2_setLoad_1 : decode cX2_setLoad 1 = .ok (.invokestatic 34, 3) := by decide +kernel
theorem dX2_setLoad_4 : decode cX2_setLoad 4 = .ok (.iload_n 2, 1) := by decide +kernel
theorem dX2_setLoad_5 : decode cX2_setLoad 5 = .ok (.iconst 0, 1) := by decide +kernel
theorem dX2_setLoad_6 : decode cX2_setLoad 6 = .ok (.sipush 200, 3) := by decide +kernel
theorem dX2_setLoad_9 : decode cX2_setLoad 9 = .ok (.invokestatic 38, 3) := by decide +kernel
theorem dX2_setLoad_12 : decode cX2_setLoad 12 = .ok (.aload_n 0, 1) := by decide +kernel
theorem dX2_setLoad_13 : decode cX2_setLoad 13 = .ok (.getfield 10, 3) := by decide +kernel
theorem dX2_setLoad_16 : decode cX2_setLoad 16 = .ok (.getfield 42, 3) := by decide +kernel
theorem dX2_setLoad_19 : decode cX2_setLoad 19 = .ok (.iload_n 1, 1) := by decide +kernel
theorem dX2_setLoad_20 : decode cX2_setLoad 20 = .ok (.iaload, 1) := by decide +kernel
theorem dX2_setLoad_21 : decode cX2_setLoad 21 = .ok (.istore_n 3, 1) := by decide +kernel
theorem dX2_setLoad_22 : decode cX2_setLoad 22 = .ok (.aload_n 0, 1) := by decide +kernel
theorem dX2_setLoad_23 : decode cX2_setLoad 23 = .ok (.getfield 10, 3) := by decide +kernel
theorem dX2_setLoad_26 : decode cX2_setLoad 26 = .ok (.getfield 42, 3) := by decide +kernel
theorem dX2_setLoad_29 : decode cX2_setLoad 29 = .ok (.iload_n 1, 1) := by decide +kernel
theorem dX2_setLoad_30 : decode cX2_setLoad 30 = .ok (.iload_n 2, 1) := by decide +kernel
theorem dX2_setLoad_31 : decode cX2_setLoad 31 = .ok (.iastore, 1) := by decide +kernel
theorem dX2_setLoad_32 : decode cX2_setLoad 32 = .ok (.iload_n 3, 1) := by decide +kernel
theorem dX2_setLoad_33 : decode cX2_setLoad 33 = .ok (.ireturn, 1) := by decide +kernel
set_option maxRecDepth 20000 in
theorem ggX2_setSetpoint_X2_requireZone : GoodIn wsX2_setSetpoint wsX2_requireZone := goodIn_ca (goodIn_r _ [8, 9, 10, 7, 11, 12, 13] (by decide +kernel) (by decide +kernel)) (goodIn_sub (fun _ h => List.mem_cons_of_mem _ (List.mem_append_right _ h)) (by decide +kernel))
set_option maxRecDepth 20000 in
theorem gX2_setSetpoint_X2_requireZone : GoodIn wsX2_setSetpoint (va_wsS RX2 34 yX2_requireZone wsX2_requireZone) := goodIn_app (goodIn_of _ (by decide +kernel)) ggX2_setSetpoint_X2_requireZone
set_option maxRecDepth 20000 in
theorem ggX2_setSetpoint_X2_requireWithin : GoodIn wsX2_setSetpoint wsX2_requireWithin := goodIn_ca (goodIn_r _ [11, 12, 13] (by decide +kernel) (by decide +kernel)) (goodIn_sub (fun _ h => List.mem_cons_of_mem _ (List.mem_append_right _ h)) (by decide +kernel))
set_option maxRecDepth 20000 in
theorem gX2_setSetpoint_X2_requireWithin : GoodIn wsX2_setSetpoint (va_wsS RX2 38 yX2_requireWithin wsX2_requireWithin) := goodIn_app (goodIn_of _ (by decide +kernel)) ggX2_setSetpoint_X2_requireWithin
theorem dX2_setSetpoint_0 : decode cX2_setSetpoint 0 = .ok (.iload_n 1, 1) := by decide +kernel
theorem dX2_setSetpoint_1 : decode cX2_setSetpoint 1 = .ok (.invokestatic 34, 3) := by decide +kernel
theorem dX2_setSetpoint_4 : decode cX2_setSetpoint 4 = .ok (.iload_n 2, 1) := by decide +kernel
theorem dX2_setSetpoint_5 : decode cX2_setSetpoint 5 = .ok (.sipush 1500, 3) := by decide +kernel
theorem dX2_setSetpoint_8 : decode cX2_setSetpoint 8 = .ok (.sipush 3500, 3) := by decide +kernel
theorem dX2_setSetpoint_11 : decode cX2_setSetpoint 11 = .ok (.invokestatic 38, 3) := by decide +kernel
theorem dX2_setSetpoint_14 : decode cX2_setSetpoint 14 = .ok (.aload_n 0, 1) := by decide +kernel
theorem dX2_setSetpoint_15 : decode cX2_setSetpoint 15 = .ok (.getfield 10, 3) := by decide +kernel
theorem dX2_setSetpoint_18 : decode cX2_setSetpoint 18 = .ok (.getfield 45, 3) := by decide +kernel
theorem dX2_setSetpoint_21 : decode cX2_setSetpoint 21 = .ok (.iload_n 1, 1) := by decide +kernel
theorem dX2_setSetpoint_22 : decode cX2_setSetpoint 22 = .ok (.iaload, 1) := by decide +kernel
theorem dX2_setSetpoint_23 : decode cX2_setSetpoint 23 = .ok (.istore_n 3, 1) := by decide +kernel
theorem dX2_setSetpoint_24 : decode cX2_setSetpoint 24 = .ok (.aload_n 0, 1) := by decide +kernel
theorem dX2_setSetpoint_25 : decode cX2_setSetpoint 25 = .ok (.getfield 10, 3) := by decide +kernel
theorem dX2_setSetpoint_28 : decode cX2_setSetpoint 28 = .ok (.getfield 45, 3) := by decide +kernel
theorem dX2_setSetpoint_31 : decode cX2_setSetpoint 31 = .ok (.iload_n 1, 1) := by decide +kernel
theorem dX2_setSetpoint_32 : decode cX2_setSetpoint 32 = .ok (.iload_n 2, 1) := by decide +kernel
theorem dX2_setSetpoint_33 : decode cX2_setSetpoint 33 = .ok (.iastore, 1) := by decide +kernel
theorem dX2_setSetpoint_34 : decode cX2_setSetpoint 34 = .ok (.aload_n 0, 1) := by decide +kernel
theorem dX2_setSetpoint_35 : decode cX2_setSetpoint 35 = .ok (.getfield 19, 3) := by decide +kernel
theorem dX2_setSetpoint_38 : decode cX2_setSetpoint 38 = .ok (.getfield 48, 3) := by decide +kernel
theorem dX2_setSetpoint_41 : decode cX2_setSetpoint 41 = .ok (.iload_n 1, 1) := by decide +kernel
theorem dX2_setSetpoint_42 : decode cX2_setSetpoint 42 = .ok (.iconst 0, 1) := by decide +kernel
theorem dX2_setSetpoint_43 : decode cX2_setSetpoint 43 = .ok (.iastore, 1) := by decide +kernel
theorem dX2_setSetpoint_44 : decode cX2_setSetpoint 44 = .ok (.iload_n 3, 1) := by decide +kernel
theorem dX2_setSetpoint_45 : decode cX2_setSetpoint 45 = .ok (.ireturn, 1) := by decide +kernel
set_option maxRecDepth 20000 in
theorem ggX2_setEffect_X2_requireFan : GoodIn wsX2_setEffect wsX2_requireFan := goodIn_ca (goodIn_r _ [6, 7, 8, 5, 9, 10, 11] (by decide +kernel) (by decide +kernel)) (goodIn_sub (fun _ h => List.mem_cons_of_mem _ (List.mem_append_right _ h)) (by decide +kernel))
set_option maxRecDepth 20000 in
theorem gX2_setEffect_X2_requireFan : GoodIn wsX2_setEffect (va_wsS RX2 51 yX2_requireFan wsX2_requireFan) := goodIn_app (goodIn_of _ (by decide +kernel)) ggX2_setEffect_X2_requireFan
set_option maxRecDepth 20000 in
theorem ggX2_setEffect_X2_requireZone : GoodIn wsX2_setEffect wsX2_requireZone := goodIn_ca (goodIn_r _ [14, 7, 8, 5, 9, 10, 11] (by decide +kernel) (by decide +kernel)) (goodIn_sub (fun _ h => List.mem_cons_of_mem _ (List.mem_append_right _ h)) (by decide +kernel))
set_option maxRecDepth 20000 in
theorem gX2_setEffect_X2_requireZone : GoodIn wsX2_setEffect (va_wsS RX2 34 yX2_requireZone wsX2_requireZone) := goodIn_app (goodIn_of _ (by decide +kernel)) ggX2_setEffect_X2_requireZone
set_option maxRecDepth 20000 in
theorem ggX2_setEffect_X2_requireWithin : GoodIn wsX2_setEffect wsX2_requireWithin := goodIn_ca (goodIn_r _ [9, 10, 11] (by decide +kernel) (by decide +kernel)) (goodIn_sub (fun _ h => List.mem_cons_of_mem _ (List.mem_append_right _ h)) (by decide +kernel))
set_option maxRecDepth 20000 in
theorem gX2_setEffect_X2_requireWithin : GoodIn wsX2_setEffect (va_wsS RX2 38 yX2_requireWithin wsX2_requireWithin) := goodIn_app (goodIn_of _ (by decide +kernel)) ggX2_setEffect_X2_requireWithin
theorem dX2_setEffect_0 : decode cX2_setEffect 0 = .ok (.iload_n 1, 1) := by decide +kernel
theorem dX2_setEffect_1 : decode cX2_setEffect 1 = .ok (.invokestatic 51, 3) := by decide +kernel
theorem dX2_setEffect_4 : decode cX2_setEffect 4 = .ok (.iload_n 2, 1) := by decide +kernel
theorem dX2_setEffect_5 : decode cX2_setEffect 5 = .ok (.invokestatic 34, 3) := by decide +kernel
theorem dX2_setEffect_8 : decode cX2_setEffect 8 = .ok (.iload_n 3, 1) := by decide +kernel
theorem dX2_setEffect_9 : decode cX2_setEffect 9 = .ok (.iconst 0, 1) := by decide +kernel
theorem dX2_setEffect_10 : decode cX2_setEffect 10 = .ok (.bipush 100, 2) := by decide +kernel
theorem dX2_setEffect_12 : decode cX2_setEffect 12 = .ok (.invokestatic 38, 3) := by decide +kernel
theorem dX2_setEffect_15 : decode cX2_setEffect 15 = .ok (.aload_n 0, 1) := by decide +kernel
theorem dX2_setEffect_16 : decode cX2_setEffect 16 = .ok (.getfield 10, 3) := by decide +kernel
theorem dX2_setEffect_19 : decode cX2_setEffect 19 = .ok (.getfield 54, 3) := by decide +kernel
theorem dX2_setEffect_22 : decode cX2_setEffect 22 = .ok (.iload_n 1, 1) := by decide +kernel
theorem dX2_setEffect_23 : decode cX2_setEffect 23 = .ok (.aaload, 1) := by decide +kernel
theorem dX2_setEffect_24 : decode cX2_setEffect 24 = .ok (.iload_n 2, 1) := by decide +kernel
theorem dX2_setEffect_25 : decode cX2_setEffect 25 = .ok (.iaload, 1) := by decide +kernel
theorem dX2_setEffect_26 : decode cX2_setEffect 26 = .ok (.istore 4, 2) := by decide +kernel
theorem dX2_setEffect_28 : decode cX2_setEffect 28 = .ok (.aload_n 0, 1) := by decide +kernel
theorem dX2_setEffect_29 : decode cX2_setEffect 29 = .ok (.getfield 10, 3) := by decide +kernel
theorem dX2_setEffect_32 : decode cX2_setEffect 32 = .ok (.getfield 54, 3) := by decide +kernel
theorem dX2_setEffect_35 : decode cX2_setEffect 35 = .ok (.iload_n 1, 1) := by decide +kernel
theorem dX2_setEffect_36 : decode cX2_setEffect 36 = .ok (.aaload, 1) := by decide +kernel
theorem dX2_setEffect_37 : decode cX2_setEffect 37 = .ok (.iload_n 2, 1) := by decide +kernel
theorem dX2_setEffect_38 : decode cX2_setEffect 38 = .ok (.iload_n 3, 1) := by decide +kernel
theorem dX2_setEffect_39 : decode cX2_setEffect 39 = .ok (.iastore, 1) := by decide +kernel
theorem dX2_setEffect_40 : decode cX2_setEffect 40 = .ok (.iload 4, 2) := by decide +kernel
theorem dX2_setEffect_42 : decode cX2_setEffect 42 = .ok (.ireturn, 1) := by decide +kernel
set_option maxRecDepth 20000 in
theorem ggX2_setGains_X2_requireWithin : GoodIn wsX2_setGains wsX2_requireWithin := goodIn_ca (goodIn_r _ [7, 8, 9] (by decide +kernel) (by decide +kernel)) (goodIn_sub (fun _ h => List.mem_cons_of_mem _ (List.mem_append_right _ h)) (by decide +kernel))
set_option maxRecDepth 20000 in
theorem gX2_setGains_X2_requireWithin : GoodIn wsX2_setGains (va_wsS RX2 38 yX2_requireWithin wsX2_requireWithin) := goodIn_app (goodIn_of _ (by decide +kernel)) ggX2_setGains_X2_requireWithin
theorem dX2_setGains_0 : decode cX2_setGains 0 = .ok (.iload_n 1, 1) := by decide +kernel
theorem dX2_setGains_1 : decode cX2_setGains 1 = .ok (.iconst 0, 1) := by decide +kernel
theorem dX2_setGains_2 : decode cX2_setGains 2 = .ok (.sipush 200, 3) := by decide +kernel
theorem dX2_setGains_5 : decode cX2_setGains 5 = .ok (.invokestatic 38, 3) := by decide +kernel
theorem dX2_setGains_8 : decode cX2_setGains 8 = .ok (.iload_n 2, 1) := by decide +kernel
theorem dX2_setGains_9 : decode cX2_setGains 9 = .ok (.iconst 0, 1) := by decide +kernel
theorem dX2_setGains_10 : decode cX2_setGains 10 = .ok (.sipush 200, 3) := by decide +kernel
theorem dX2_setGains_13 : decode cX2_setGains 13 = .ok (.invokestatic 38, 3) := by decide +kernel
theorem dX2_setGains_16 : decode cX2_setGains 16 = .ok (.aload_n 0, 1) := by decide +kernel
theorem dX2_setGains_17 : decode cX2_setGains 17 = .ok (.getfield 10, 3) := by decide +kernel
theorem dX2_setGains_20 : decode cX2_setGains 20 = .ok (.iload_n 1, 1) := by decide +kernel
theorem dX2_setGains_21 : decode cX2_setGains 21 = .ok (.putfield 58, 3) := by decide +kernel
theorem dX2_setGains_24 : decode cX2_setGains 24 = .ok (.aload_n 0, 1) := by decide +kernel
theorem dX2_setGains_25 : decode cX2_setGains 25 = .ok (.getfield 10, 3) := by decide +kernel
theorem dX2_setGains_28 : decode cX2_setGains 28 = .ok (.iload_n 2, 1) := by decide +kernel
theorem dX2_setGains_29 : decode cX2_setGains 29 = .ok (.putfield 61, 3) := by decide +kernel
theorem dX2_setGains_32 : decode cX2_setGains 32 = .ok (.return_, 1) := by decide +kernel
set_option maxRecDepth 20000 in
theorem ggX2_setHall_X2_requireWithin : GoodIn wsX2_setHall wsX2_requireWithin := goodIn_ca (goodIn_r _ [7, 8, 9] (by decide +kernel) (by decide +kernel)) (goodIn_sub (fun _ h => List.mem_cons_of_mem _ (List.mem_append_right _ h)) (by decide +kernel))
set_option maxRecDepth 20000 in
theorem gX2_setHall_X2_requireWithin : GoodIn wsX2_setHall (va_wsS RX2 38 yX2_requireWithin wsX2_requireWithin) := goodIn_app (goodIn_of _ (by decide +kernel)) ggX2_setHall_X2_requireWithin
theorem dX2_setHall_0 : decode cX2_setHall 0 = .ok (.iload_n 1, 1) := by decide +kernel
theorem dX2_setHall_1 : decode cX2_setHall 1 = .ok (.sipush 1000, 3) := by decide +kernel
theorem dX2_setHall_4 : decode cX2_setHall 4 = .ok (.sipush 5000, 3) := by decide +kernel
theorem dX2_setHall_7 : decode cX2_setHall 7 = .ok (.invokestatic 38, 3) := by decide +kernel
theorem dX2_setHall_10 : decode cX2_setHall 10 = .ok (.iload_n 2, 1) := by decide +kernel
theorem dX2_setHall_11 : decode cX2_setHall 11 = .ok (.sipush 1000, 3) := by decide +kernel
theorem dX2_setHall_14 : decode cX2_setHall 14 = .ok (.sipush 5000, 3) := by decide +kernel
theorem dX2_setHall_17 : decode cX2_setHall 17 = .ok (.invokestatic 38, 3) := by decide +kernel
theorem dX2_setHall_20 : decode cX2_setHall 20 = .ok (.aload_n 0, 1) := by decide +kernel
theorem dX2_setHall_21 : decode cX2_setHall 21 = .ok (.getfield 10, 3) := by decide +kernel
theorem dX2_setHall_24 : decode cX2_setHall 24 = .ok (.iload_n 1, 1) := by decide +kernel
theorem dX2_setHall_25 : decode cX2_setHall 25 = .ok (.putfield 64, 3) := by decide +kernel
theorem dX2_setHall_28 : decode cX2_setHall 28 = .ok (.aload_n 0, 1) := by decide +kernel
theorem dX2_setHall_29 : decode cX2_setHall 29 = .ok (.getfield 10, 3) := by decide +kernel
theorem dX2_setHall_32 : decode cX2_setHall 32 = .ok (.iload_n 2, 1) := by decide +kernel
theorem dX2_setHall_33 : decode cX2_setHall 33 = .ok (.putfield 67, 3) := by decide +kernel
theorem dX2_setHall_36 : decode cX2_setHall 36 = .ok (.return_, 1) := by decide +kernel
set_option maxRecDepth 20000 in
theorem ggX2_setDelay_X2_requireWithin : GoodIn wsX2_setDelay wsX2_requireWithin := goodIn_ca (goodIn_r _ [6, 7, 8] (by decide +kernel) (by decide +kernel)) (goodIn_sub (fun _ h => List.mem_cons_of_mem _ (List.mem_append_right _ h)) (by decide +kernel))
set_option maxRecDepth 20000 in
theorem gX2_setDelay_X2_requireWithin : GoodIn wsX2_setDelay (va_wsS RX2 38 yX2_requireWithin wsX2_requireWithin) := goodIn_app (goodIn_of _ (by decide +kernel)) ggX2_setDelay_X2_requireWithin
theorem dX2_setDelay_0 : decode cX2_setDelay 0 = .ok (.iload_n 1, 1) := by decide +kernel
theorem dX2_setDelay_1 : decode cX2_setDelay 1 = .ok (.iconst 0, 1) := by decide +kernel
theorem dX2_setDelay_2 : decode cX2_setDelay 2 = .ok (.bipush 8, 2) := by decide +kernel
theorem dX2_setDelay_4 : decode cX2_setDelay 4 = .ok (.invokestatic 38, 3) := by decide +kernel
theorem dX2_setDelay_7 : decode cX2_setDelay 7 = .ok (.aload_n 0, 1) := by decide +kernel
theorem dX2_setDelay_8 : decode cX2_setDelay 8 = .ok (.getfield 10, 3) := by decide +kernel
theorem dX2_setDelay_11 : decode cX2_setDelay 11 = .ok (.getfield 70, 3) := by decide +kernel
theorem dX2_setDelay_14 : decode cX2_setDelay 14 = .ok (.istore_n 2, 1) := by decide +kernel
theorem dX2_setDelay_15 : decode cX2_setDelay 15 = .ok (.aload_n 0, 1) := by decide +kernel
theorem dX2_setDelay_16 : decode cX2_setDelay 16 = .ok (.getfield 10, 3) := by decide +kernel
theorem dX2_setDelay_19 : decode cX2_setDelay 19 = .ok (.iload_n 1, 1) := by decide +kernel
theorem dX2_setDelay_20 : decode cX2_setDelay 20 = .ok (.putfield 70, 3) := by decide +kernel
theorem dX2_setDelay_23 : decode cX2_setDelay 23 = .ok (.iload_n 2, 1) := by decide +kernel
theorem dX2_setDelay_24 : decode cX2_setDelay 24 = .ok (.ireturn, 1) := by decide +kernel
set_option maxRecDepth 20000 in
theorem ggX2_fail_X2_requireFan : GoodIn wsX2_fail wsX2_requireFan := goodIn_ca (goodIn_r _ [8, 9, 10, 7, 11, 12, 13] (by decide +kernel) (by decide +kernel)) (goodIn_sub (fun _ h => List.mem_cons_of_mem _ (List.mem_append_right _ h)) (by decide +kernel))
set_option maxRecDepth 20000 in
theorem gX2_fail_X2_requireFan : GoodIn wsX2_fail (va_wsS RX2 51 yX2_requireFan wsX2_requireFan) := goodIn_app (goodIn_of _ (by decide +kernel)) ggX2_fail_X2_requireFan
set_option maxRecDepth 20000 in
theorem ggX2_fail_X0_stopFan : GoodIn wsX2_fail wsX0_stopFan := goodIn_r _ [18, 19, 20, 30, 31, 32, 33, 34, 35, 36] (by decide +kernel) (by decide +kernel)
set_option maxRecDepth 20000 in
theorem gX2_fail_X0_stopFan : GoodIn wsX2_fail (wsV RX2 84 RX0 yX0_stopFan wsX0_stopFan) := goodIn_app (goodIn_of _ (by decide +kernel)) ggX2_fail_X0_stopFan
set_option maxRecDepth 20000 in
theorem ggX2_fail_X0_countRunning : GoodIn wsX2_fail wsX0_countRunning := goodIn_r _ [24, 19, 30, 31, 32, 33, 34, 35, 36] (by decide +kernel) (by decide +kernel)
set_option maxRecDepth 20000 in
theorem gX2_fail_X0_countRunning : GoodIn wsX2_fail (wsV RX2 87 RX0 yX0_countRunning wsX0_countRunning) := goodIn_app (goodIn_of _ (by decide +kernel)) ggX2_fail_X0_countRunning
theorem dX2_fail_0 : decode cX2_fail 0 = .ok (.iload_n 1, 1) := by decide +kernel
theorem dX2_fail_1 : decode cX2_fail 1 = .ok (.invokestatic 51, 3) := by decide +kernel
theorem dX2_fail_4 : decode cX2_fail 4 = .ok (.aload_n 0, 1) := by decide +kernel
theorem dX2_fail_5 : decode cX2_fail 5 = .ok (.getfield 19, 3) := by decide +kernel
theorem dX2_fail_8 : decode cX2_fail 8 = .ok (.getfield 73, 3) := by decide +kernel
theorem dX2_fail_11 : decode cX2_fail 11 = .ok (.iload_n 1, 1) := by decide +kernel
theorem dX2_fail_12 : decode cX2_fail 12 = .ok (.baload, 1) := by decide +kernel
theorem dX2_fail_13 : decode cX2_fail 13 = .ok (.ifCond .eq 13, 3) := by decide +kernel
theorem dX2_fail_16 : decode cX2_fail 16 = .ok (.new 77, 3) := by decide +kernel
theorem dX2_fail_19 : decode cX2_fail 19 = .ok (.dup, 1) := by decide +kernel
theorem dX2_fail_20 : decode cX2_fail 20 = .ok (.ldc 79, 2) := by decide +kernel
theorem dX2_fail_22 : decode cX2_fail 22 = .ok (.invokespecial 81, 3) := by decide +kernel
theorem dX2_fail_25 : decode cX2_fail 25 = .ok (.athrow, 1) := by decide +kernel
theorem dX2_fail_26 : decode cX2_fail 26 = .ok (.aload_n 0, 1) := by decide +kernel
theorem dX2_fail_27 : decode cX2_fail 27 = .ok (.getfield 19, 3) := by decide +kernel
theorem dX2_fail_30 : decode cX2_fail 30 = .ok (.iload_n 1, 1) := by decide +kernel
theorem dX2_fail_31 : decode cX2_fail 31 = .ok (.invokevirtual 84, 3) := by decide +kernel
theorem dX2_fail_34 : decode cX2_fail 34 = .ok (.aload_n 0, 1) := by decide +kernel
theorem dX2_fail_35 : decode cX2_fail 35 = .ok (.getfield 19, 3) := by decide +kernel
theorem dX2_fail_38 : decode cX2_fail 38 = .ok (.invokevirtual 87, 3) := by decide +kernel
theorem dX2_fail_41 : decode cX2_fail 41 = .ok (.ireturn, 1) := by decide +kernel
set_option maxRecDepth 20000 in
theorem ggX2_repair_X2_requireFan : GoodIn wsX2_repair wsX2_requireFan := goodIn_ca (goodIn_r _ [8, 9, 10, 7, 11, 12, 13] (by decide +kernel) (by decide +kernel)) (goodIn_sub (fun _ h => List.mem_cons_of_mem _ (List.mem_append_right _ h)) (by decide +kernel))
set_option maxRecDepth 20000 in
theorem gX2_repair_X2_requireFan : GoodIn wsX2_repair (va_wsS RX2 51 yX2_requireFan wsX2_requireFan) := goodIn_app (goodIn_of _ (by decide +kernel)) ggX2_repair_X2_requireFan
set_option maxRecDepth 20000 in
theorem ggX2_repair_X0_countRunning : GoodIn wsX2_repair wsX0_countRunning := goodIn_r _ [18, 19, 25, 26, 27, 28, 29, 30, 31] (by decide +kernel) (by decide +kernel)
set_option maxRecDepth 20000 in
theorem gX2_repair_X0_countRunning : GoodIn wsX2_repair (wsV RX2 87 RX0 yX0_countRunning wsX0_countRunning) := goodIn_app (goodIn_of _ (by decide +kernel)) ggX2_repair_X0_countRunning
theorem dX2_repair_0 : decode cX2_repair 0 = .ok (.iload_n 1, 1) := by decide +kernel
theorem dX2_repair_1 : decode cX2_repair 1 = .ok (.invokestatic 51, 3) := by decide +kernel
theorem dX2_repair_4 : decode cX2_repair 4 = .ok (.aload_n 0, 1) := by decide +kernel
theorem dX2_repair_5 : decode cX2_repair 5 = .ok (.getfield 19, 3) := by decide +kernel
theorem dX2_repair_8 : decode cX2_repair 8 = .ok (.getfield 73, 3) := by decide +kernel
theorem dX2_repair_11 : decode cX2_repair 11 = .ok (.iload_n 1, 1) := by decide +kernel
theorem dX2_repair_12 : decode cX2_repair 12 = .ok (.baload, 1) := by decide +kernel
theorem dX2_repair_13 : decode cX2_repair 13 = .ok (.ifCond .ne 13, 3) := by decide +kernel
theorem dX2_repair_16 : decode cX2_repair 16 = .ok (.new 77, 3) := by decide +kernel
theorem dX2_repair_19 : decode cX2_repair 19 = .ok (.dup, 1) := by decide +kernel
theorem dX2_repair_20 : decode cX2_repair 20 = .ok (.ldc 91, 2) := by decide +kernel
theorem dX2_repair_22 : decode cX2_repair 22 = .ok (.invokespecial 81, 3) := by decide +kernel
theorem dX2_repair_25 : decode cX2_repair 25 = .ok (.athrow, 1) := by decide +kernel
theorem dX2_repair_26 : decode cX2_repair 26 = .ok (.aload_n 0, 1) := by decide +kernel
theorem dX2_repair_27 : decode cX2_repair 27 = .ok (.getfield 19, 3) := by decide +kernel
theorem dX2_repair_30 : decode cX2_repair 30 = .ok (.getfield 73, 3) := by decide +kernel
theorem dX2_repair_33 : decode cX2_repair 33 = .ok (.iload_n 1, 1) := by decide +kernel
theorem dX2_repair_34 : decode cX2_repair 34 = .ok (.iconst 0, 1) := by decide +kernel
theorem dX2_repair_35 : decode cX2_repair 35 = .ok (.bastore, 1) := by decide +kernel
theorem dX2_repair_36 : decode cX2_repair 36 = .ok (.aload_n 0, 1) := by decide +kernel
theorem dX2_repair_37 : decode cX2_repair 37 = .ok (.getfield 19, 3) := by decide +kernel
theorem dX2_repair_40 : decode cX2_repair 40 = .ok (.invokevirtual 87, 3) := by decide +kernel
theorem dX2_repair_43 : decode cX2_repair 43 = .ok (.ireturn, 1) := by decide +kernel
set_option maxRecDepth 20000 in
theorem ggX2_command_X2_requireFan : GoodIn wsX2_command wsX2_requireFan := goodIn_ca (goodIn_r _ [5, 6, 7, 4, 8, 9, 10] (by decide +kernel) (by decide +kernel)) (goodIn_sub (fun _ h => List.mem_cons_of_mem _ (List.mem_append_right _ h)) (by decide +kernel))
set_option maxRecDepth 20000 in
theorem gX2_command_X2_requireFan : GoodIn wsX2_command (va_wsS RX2 51 yX2_requireFan wsX2_requireFan) := goodIn_app (goodIn_of _ (by decide +kernel)) ggX2_command_X2_requireFan
set_option maxRecDepth 20000 in
theorem ggX2_command_X0_commandsAgo : GoodIn wsX2_command wsX0_commandsAgo := goodIn_r _ [15, 16, 17, 18, 19, 20, 21, 27, 28, 29, 30, 31, 32, 33] (by decide +kernel) (by decide +kernel)
set_option maxRecDepth 20000 in
theorem gX2_command_X0_commandsAgo : GoodIn wsX2_command (wsV RX2 93 RX0 yX0_commandsAgo wsX0_commandsAgo) := goodIn_app (goodIn_of _ (by decide +kernel)) ggX2_command_X0_commandsAgo
theorem dX2_command_0 : decode cX2_command 0 = .ok (.iload_n 1, 1) := by decide +kernel
theorem dX2_command_1 : decode cX2_command 1 = .ok (.invokestatic 51, 3) := by decide +kernel
theorem dX2_command_4 : decode cX2_command 4 = .ok (.aload_n 0, 1) := by decide +kernel
theorem dX2_command_5 : decode cX2_command 5 = .ok (.getfield 19, 3) := by decide +kernel
theorem dX2_command_8 : decode cX2_command 8 = .ok (.iconst 0, 1) := by decide +kernel
theorem dX2_command_9 : decode cX2_command 9 = .ok (.invokevirtual 93, 3) := by decide +kernel
theorem dX2_command_12 : decode cX2_command 12 = .ok (.iload_n 1, 1) := by decide +kernel
theorem dX2_command_13 : decode cX2_command 13 = .ok (.iaload, 1) := by decide +kernel
theorem dX2_command_14 : decode cX2_command 14 = .ok (.ireturn, 1) := by decide +kernel
set_option maxRecDepth 20000 in
theorem ggX2_speed_X2_requireFan : GoodIn wsX2_speed wsX2_requireFan := goodIn_ca (goodIn_r _ [6, 7, 8, 5, 9, 10, 11] (by decide +kernel) (by decide +kernel)) (goodIn_sub (fun _ h => List.mem_cons_of_mem _ (List.mem_append_right _ h)) (by decide +kernel))
set_option maxRecDepth 20000 in
theorem gX2_speed_X2_requireFan : GoodIn wsX2_speed (va_wsS RX2 51 yX2_requireFan wsX2_requireFan) := goodIn_app (goodIn_of _ (by decide +kernel)) ggX2_speed_X2_requireFan
theorem dX2_speed_0 : decode cX2_speed 0 = .ok (.iload_n 1, 1) := by decide +kernel
theorem dX2_speed_1 : decode cX2_speed 1 = .ok (.invokestatic 51, 3) := by decide +kernel
theorem dX2_speed_4 : decode cX2_speed 4 = .ok (.aload_n 0, 1) := by decide +kernel
theorem dX2_speed_5 : decode cX2_speed 5 = .ok (.getfield 19, 3) := by decide +kernel
theorem dX2_speed_8 : decode cX2_speed 8 = .ok (.getfield 97, 3) := by decide +kernel
theorem dX2_speed_11 : decode cX2_speed 11 = .ok (.iload_n 1, 1) := by decide +kernel
theorem dX2_speed_12 : decode cX2_speed 12 = .ok (.iaload, 1) := by decide +kernel
theorem dX2_speed_13 : decode cX2_speed 13 = .ok (.ireturn, 1) := by decide +kernel
set_option maxRecDepth 20000 in
theorem ggX2_pass_X2_requireWithin : GoodIn wsX2_pass wsX2_requireWithin := goodIn_ca (goodIn_r _ [10, 11, 12] (by decide +kernel) (by decide +kernel)) (goodIn_sub (fun _ h => List.mem_cons_of_mem _ (List.mem_append_right _ h)) (by decide +kernel))
set_option maxRecDepth 20000 in
theorem gX2_pass_X2_requireWithin : GoodIn wsX2_pass (va_wsS RX2 38 yX2_requireWithin wsX2_requireWithin) := goodIn_app (goodIn_of _ (by decide +kernel)) ggX2_pass_X2_requireWithin
set_option maxRecDepth 20000 in
theorem ggX2_pass_X0_runMinute : GoodIn wsX2_pass wsX0_runMinute := goodIn_r _ [17, 18, 19, 20, 21, 22, 16, 23, 24, 25, 26, 27, 28, 9, 29, 30, 31, 32, 33, 34, 35, 36, 37, 38, 39, 40, 41, 42, 43, 44, 45, 46, 47, 48, 49, 50, 51, 52, 53, 54, 55, 56, 57, 58, 59, 60, 61, 62, 63, 64, 65, 66, 67, 68, 69, 70, 71, 72, 73, 74, 75, 76, 77, 90, 91, 92, 93, 94, 95, 96, 97, 98, 99, 100, 101, 102, 103, 104] (by decide +kernel) (by decide +kernel)
set_option maxRecDepth 20000 in
theorem gX2_pass_X0_runMinute : GoodIn wsX2_pass (wsV RX2 103 RX0 yX0_runMinute wsX0_runMinute) := goodIn_app (goodIn_of _ (by decide +kernel)) ggX2_pass_X0_runMinute
set_option maxRecDepth 20000 in
theorem ggX2_pass_X2_noteHotZones : GoodIn wsX2_pass wsX2_noteHotZones := goodIn_r _ [81, 5, 82, 6, 83, 84, 85, 86, 87, 88, 89, 90, 91, 92, 93, 94, 95, 96, 97, 98, 99, 100, 101, 102, 103, 104] (by decide +kernel) (by decide +kernel)
set_option maxRecDepth 20000 in
theorem gX2_pass_X2_noteHotZones : GoodIn wsX2_pass (wsV RX2 107 RX2 yX2_noteHotZones wsX2_noteHotZones) := goodIn_app (goodIn_of _ (by decide +kernel)) ggX2_pass_X2_noteHotZones
theorem dX2_pass_0 : decode cX2_pass 0 = .ok (.iload_n 1, 1) := by decide +kernel
theorem dX2_pass_1 : decode cX2_pass 1 = .ok (.iconst 1, 1) := by decide +kernel
theorem dX2_pass_2 : decode cX2_pass 2 = .ok (.sipush 300, 3) := by decide +kernel
theorem dX2_pass_5 : decode cX2_pass 5 = .ok (.invokestatic 38, 3) := by decide +kernel
theorem dX2_pass_8 : decode cX2_pass 8 = .ok (.aload_n 0, 1) := by decide +kernel
theorem dX2_pass_9 : decode cX2_pass 9 = .ok (.getfield 30, 3) := by decide +kernel
theorem dX2_pass_12 : decode cX2_pass 12 = .ok (.iload_n 1, 1) := by decide +kernel
theorem dX2_pass_13 : decode cX2_pass 13 = .ok (.iadd, 1) := by decide +kernel
theorem dX2_pass_14 : decode cX2_pass 14 = .ok (.ldc 100, 2) := by decide +kernel
theorem dX2_pass_16 : decode cX2_pass 16 = .ok (.if_icmp .le 13, 3) := by decide +kernel
theorem dX2_pass_19 : decode cX2_pass 19 = .ok (.new 77, 3) := by decide +kernel
theorem dX2_pass_22 : decode cX2_pass 22 = .ok (.dup, 1) := by decide +kernel
theorem dX2_pass_23 : decode cX2_pass 23 = .ok (.ldc 101, 2) := by decide +kernel
theorem dX2_pass_25 : decode cX2_pass 25 = .ok (.invokespecial 81, 3) := by decide +kernel
theorem dX2_pass_28 : decode cX2_pass 28 = .ok (.athrow, 1) := by decide +kernel
theorem dX2_pass_29 : decode cX2_pass 29 = .ok (.iconst 0, 1) := by decide +kernel
theorem dX2_pass_30 : decode cX2_pass 30 = .ok (.istore_n 2, 1) := by decide +kernel
theorem dX2_pass_31 : decode cX2_pass 31 = .ok (.iconst 0, 1) := by decide +kernel
theorem dX2_pass_32 : decode cX2_pass 32 = .ok (.istore_n 3, 1) := by decide +kernel
theorem dX2_pass_33 : decode cX2_pass 33 = .ok (.iload_n 3, 1) := by decide +kernel
theorem dX2_pass_34 : decode cX2_pass 34 = .ok (.iload_n 1, 1) := by decide +kernel
theorem dX2_pass_35 : decode cX2_pass 35 = .ok (.if_icmp .ge 37, 3) := by decide +kernel
theorem dX2_pass_38 : decode cX2_pass 38 = .ok (.aload_n 0, 1) := by decide +kernel
theorem dX2_pass_39 : decode cX2_pass 39 = .ok (.getfield 19, 3) := by decide +kernel
theorem dX2_pass_42 : decode cX2_pass 42 = .ok (.aload_n 0, 1) := by decide +kernel
theorem dX2_pass_43 : decode cX2_pass 43 = .ok (.getfield 10, 3) := by decide +kernel
theorem dX2_pass_46 : decode cX2_pass 46 = .ok (.invokevirtual 103, 3) := by decide +kernel
theorem dX2_pass_49 : decode cX2_pass 49 = .ok (.aload_n 0, 1) := by decide +kernel
theorem dX2_pass_50 : decode cX2_pass 50 = .ok (.dup, 1) := by decide +kernel
theorem dX2_pass_51 : decode cX2_pass 51 = .ok (.getfield 30, 3) := by decide +kernel
theorem dX2_pass_54 : decode cX2_pass 54 = .ok (.iconst 1, 1) := by decide +kernel
theorem dX2_pass_55 : decode cX2_pass 55 = .ok (.iadd, 1) := by decide +kernel
end
section
theorem dX2_pass_56 : decode cX2_pass 56 = .ok (.putfield 30, 3) := by decide +kernel
theorem dX2_pass_59 : decode cX2_pass 59 = .ok (.iload_n 2, 1) := by decide +kernel
theorem dX2_pass_60 : decode cX2_pass 60 = .ok (.aload_n 0, 1) := by decide +kernel
theorem dX2_pass_61 : decode cX2_pass 61 = .ok (.invokevirtual 107, 3) := by decide +kernel
theorem dX2_pass_64 : decode cX2_pass 64 = .ok (.iadd, 1) := by decide +kernel
theorem dX2_pass_65 : decode cX2_pass 65 = .ok (.istore_n 2, 1) := by decide +kernel
theorem dX2_pass_66 : decode cX2_pass 66 = .ok (.iinc 3 1, 3) := by decide +kernel
theorem dX2_pass_69 : decode cX2_pass 69 = .ok (.goto (-36), 3) := by decide +kernel
theorem dX2_pass_72 : decode cX2_pass 72 = .ok (.iload_n 2, 1) := by decide +kernel
theorem dX2_pass_73 : decode cX2_pass 73 = .ok (.ireturn, 1) := by decide +kernel
theorem dX2_clock_0 : decode cX2_clock 0 = .ok (.aload_n 0, 1) := by decide +kernel
theorem dX2_clock_1 : decode cX2_clock 1 = .ok (.getfield 30, 3) := by decide +kernel
theorem dX2_clock_4 : decode cX2_clock 4 = .ok (.ireturn, 1) := by decide +kernel
set_option maxRecDepth 20000 in
theorem ggX2_temperature_X2_requireZone : GoodIn wsX2_temperature wsX2_requireZone := goodIn_ca (goodIn_r _ [6, 7, 8, 5, 9, 10, 11] (by decide +kernel) (by decide +kernel)) (goodIn_sub (fun _ h => List.mem_cons_of_mem _ (List.mem_append_right _ h)) (by decide +kernel))
set_option maxRecDepth 20000 in
theorem gX2_temperature_X2_requireZone : GoodIn wsX2_temperature (va_wsS RX2 34 yX2_requireZone wsX2_requireZone) := goodIn_app (goodIn_of _ (by decide +kernel)) ggX2_temperature_X2_requireZone
theorem dX2_temperature_0 : decode cX2_temperature 0 = .ok (.iload_n 1, 1) := by decide +kernel
theorem dX2_temperature_1 : decode cX2_temperature 1 = .ok (.invokestatic 34, 3) := by decide +kernel
theorem dX2_temperature_4 : decode cX2_temperature 4 = .ok (.aload_n 0, 1) := by decide +kernel
theorem dX2_temperature_5 : decode cX2_temperature 5 = .ok (.getfield 19, 3) := by decide +kernel
theorem dX2_temperature_8 : decode cX2_temperature 8 = .ok (.getfield 110, 3) := by decide +kernel
theorem dX2_temperature_11 : decode cX2_temperature 11 = .ok (.iload_n 1, 1) := by decide +kernel
theorem dX2_temperature_12 : decode cX2_temperature 12 = .ok (.iaload, 1) := by decide +kernel
theorem dX2_temperature_13 : decode cX2_temperature 13 = .ok (.ireturn, 1) := by decide +kernel
set_option maxRecDepth 20000 in
theorem ggX2_demand_X2_requireZone : GoodIn wsX2_demand wsX2_requireZone := goodIn_ca (goodIn_r _ [6, 7, 8, 5, 9, 10, 11] (by decide +kernel) (by decide +kernel)) (goodIn_sub (fun _ h => List.mem_cons_of_mem _ (List.mem_append_right _ h)) (by decide +kernel))
set_option maxRecDepth 20000 in
theorem gX2_demand_X2_requireZone : GoodIn wsX2_demand (va_wsS RX2 34 yX2_requireZone wsX2_requireZone) := goodIn_app (goodIn_of _ (by decide +kernel)) ggX2_demand_X2_requireZone
theorem dX2_demand_0 : decode cX2_demand 0 = .ok (.iload_n 1, 1) := by decide +kernel
theorem dX2_demand_1 : decode cX2_demand 1 = .ok (.invokestatic 34, 3) := by decide +kernel
theorem dX2_demand_4 : decode cX2_demand 4 = .ok (.aload_n 0, 1) := by decide +kernel
theorem dX2_demand_5 : decode cX2_demand 5 = .ok (.getfield 19, 3) := by decide +kernel
theorem dX2_demand_8 : decode cX2_demand 8 = .ok (.getfield 113, 3) := by decide +kernel
theorem dX2_demand_11 : decode cX2_demand 11 = .ok (.iload_n 1, 1) := by decide +kernel
theorem dX2_demand_12 : decode cX2_demand 12 = .ok (.iaload, 1) := by decide +kernel
theorem dX2_demand_13 : decode cX2_demand 13 = .ok (.ireturn, 1) := by decide +kernel
set_option maxRecDepth 20000 in
theorem ggX2_errors_X2_requireZone : GoodIn wsX2_errors wsX2_requireZone := goodIn_ca (goodIn_r _ [6, 7, 8, 5, 9, 10, 11] (by decide +kernel) (by decide +kernel)) (goodIn_sub (fun _ h => List.mem_cons_of_mem _ (List.mem_append_right _ h)) (by decide +kernel))
set_option maxRecDepth 20000 in
theorem gX2_errors_X2_requireZone : GoodIn wsX2_errors (va_wsS RX2 34 yX2_requireZone wsX2_requireZone) := goodIn_app (goodIn_of _ (by decide +kernel)) ggX2_errors_X2_requireZone
theorem dX2_errors_0 : decode cX2_errors 0 = .ok (.iload_n 1, 1) := by decide +kernel
theorem dX2_errors_1 : decode cX2_errors 1 = .ok (.invokestatic 34, 3) := by decide +kernel
theorem dX2_errors_4 : decode cX2_errors 4 = .ok (.aload_n 0, 1) := by decide +kernel
theorem dX2_errors_5 : decode cX2_errors 5 = .ok (.getfield 19, 3) := by decide +kernel
theorem dX2_errors_8 : decode cX2_errors 8 = .ok (.getfield 48, 3) := by decide +kernel
theorem dX2_errors_11 : decode cX2_errors 11 = .ok (.iload_n 1, 1) := by decide +kernel
theorem dX2_errors_12 : decode cX2_errors 12 = .ok (.iaload, 1) := by decide +kernel
theorem dX2_errors_13 : decode cX2_errors 13 = .ok (.ireturn, 1) := by decide +kernel
set_option maxRecDepth 20000 in
theorem ggX2_hotMinutes_X2_requireZone : GoodIn wsX2_hotMinutes wsX2_requireZone := goodIn_ca (goodIn_r _ [5, 6, 7, 4, 8, 9, 10] (by decide +kernel) (by decide +kernel)) (goodIn_sub (fun _ h => List.mem_cons_of_mem _ (List.mem_append_right _ h)) (by decide +kernel))
set_option maxRecDepth 20000 in
theorem gX2_hotMinutes_X2_requireZone : GoodIn wsX2_hotMinutes (va_wsS RX2 34 yX2_requireZone wsX2_requireZone) := goodIn_app (goodIn_of _ (by decide +kernel)) ggX2_hotMinutes_X2_requireZone
theorem dX2_hotMinutes_0 : decode cX2_hotMinutes 0 = .ok (.iload_n 1, 1) := by decide +kernel
theorem dX2_hotMinutes_1 : decode cX2_hotMinutes 1 = .ok (.invokestatic 34, 3) := by decide +kernel
theorem dX2_hotMinutes_4 : decode cX2_hotMinutes 4 = .ok (.aload_n 0, 1) := by decide +kernel
theorem dX2_hotMinutes_5 : decode cX2_hotMinutes 5 = .ok (.getfield 26, 3) := by decide +kernel
theorem dX2_hotMinutes_8 : decode cX2_hotMinutes 8 = .ok (.iload_n 1, 1) := by decide +kernel
theorem dX2_hotMinutes_9 : decode cX2_hotMinutes 9 = .ok (.iaload, 1) := by decide +kernel
theorem dX2_hotMinutes_10 : decode cX2_hotMinutes 10 = .ok (.ireturn, 1) := by decide +kernel
theorem dX2_hottest_0 : decode cX2_hottest 0 = .ok (.iconst 0, 1) := by decide +kernel
theorem dX2_hottest_1 : decode cX2_hottest 1 = .ok (.istore_n 1, 1) := by decide +kernel
theorem dX2_hottest_2 : decode cX2_hottest 2 = .ok (.iconst 1, 1) := by decide +kernel
theorem dX2_hottest_3 : decode cX2_hottest 3 = .ok (.istore_n 2, 1) := by decide +kernel
theorem dX2_hottest_4 : decode cX2_hottest 4 = .ok (.iload_n 2, 1) := by decide +kernel
theorem dX2_hottest_5 : decode cX2_hottest 5 = .ok (.bipush 6, 2) := by decide +kernel
theorem dX2_hottest_7 : decode cX2_hottest 7 = .ok (.if_icmp .ge 32, 3) := by decide +kernel
theorem dX2_hottest_10 : decode cX2_hottest 10 = .ok (.aload_n 0, 1) := by decide +kernel
theorem dX2_hottest_11 : decode cX2_hottest 11 = .ok (.getfield 19, 3) := by decide +kernel
theorem dX2_hottest_14 : decode cX2_hottest 14 = .ok (.getfield 110, 3) := by decide +kernel
theorem dX2_hottest_17 : decode cX2_hottest 17 = .ok (.iload_n 2, 1) := by decide +kernel
theorem dX2_hottest_18 : decode cX2_hottest 18 = .ok (.iaload, 1) := by decide +kernel
theorem dX2_hottest_19 : decode cX2_hottest 19 = .ok (.aload_n 0, 1) := by decide +kernel
theorem dX2_hottest_20 : decode cX2_hottest 20 = .ok (.getfield 19, 3) := by decide +kernel
theorem dX2_hottest_23 : decode cX2_hottest 23 = .ok (.getfield 110, 3) := by decide +kernel
theorem dX2_hottest_26 : decode cX2_hottest 26 = .ok (.iload_n 1, 1) := by decide +kernel
theorem dX2_hottest_27 : decode cX2_hottest 27 = .ok (.iaload, 1) := by decide +kernel
theorem dX2_hottest_28 : decode cX2_hottest 28 = .ok (.if_icmp .le 5, 3) := by decide +kernel
theorem dX2_hottest_31 : decode cX2_hottest 31 = .ok (.iload_n 2, 1) := by decide +kernel
theorem dX2_hottest_32 : decode cX2_hottest 32 = .ok (.istore_n 1, 1) := by decide +kernel
theorem dX2_hottest_33 : decode cX2_hottest 33 = .ok (.iinc 2 1, 3) := by decide +kernel
theorem dX2_hottest_36 : decode cX2_hottest 36 = .ok (.goto (-32), 3) := by decide +kernel
theorem dX2_hottest_39 : decode cX2_hottest 39 = .ok (.iload_n 1, 1) := by decide +kernel
theorem dX2_hottest_40 : decode cX2_hottest 40 = .ok (.ireturn, 1) := by decide +kernel
set_option maxRecDepth 20000 in
theorem ggX2_expected_X2_requireForecast : GoodIn wsX2_expected wsX2_requireForecast := goodIn_ca (goodIn_r _ [4, 5, 6, 3, 7, 8, 9, 10, 11, 12] (by decide +kernel) (by decide +kernel)) (goodIn_sub (fun _ h => List.mem_cons_of_mem _ (List.mem_append_right _ h)) (by decide +kernel))
set_option maxRecDepth 20000 in
theorem gX2_expected_X2_requireForecast : GoodIn wsX2_expected (va_wsS RX2 116 yX2_requireForecast wsX2_requireForecast) := goodIn_app (goodIn_of _ (by decide +kernel)) ggX2_expected_X2_requireForecast
set_option maxRecDepth 20000 in
theorem ggX2_expected_X2_greatestTemperature : GoodIn wsX2_expected wsX2_greatestTemperature := goodIn_r _ [16, 17, 18, 19, 20, 21, 22, 23, 24, 25, 26, 27, 28, 29, 30, 31, 32, 33, 34, 35, 36, 37, 38, 39, 40, 41, 42, 43, 44, 45, 46, 47, 48, 49, 50, 51, 52, 53, 54, 55, 56, 3, 57, 58, 59, 60, 61, 62, 63, 64, 65, 66, 67, 68, 69, 70, 71, 72, 73, 74, 75, 76, 77, 78, 79, 80, 81, 82, 83, 84, 85, 86, 87, 88, 89, 90, 91, 92, 93, 94, 95, 96, 97, 98, 99, 100, 101, 102, 103, 104, 105, 106, 107, 108, 109, 110, 111, 112, 113, 114, 115, 116, 117] (by decide +kernel) (by decide +kernel)
set_option maxRecDepth 20000 in
theorem gX2_expected_X2_greatestTemperature : GoodIn wsX2_expected (wsV RX2 120 RX2 yX2_greatestTemperature wsX2_greatestTemperature) := goodIn_app (goodIn_of _ (by decide +kernel)) ggX2_expected_X2_greatestTemperature
theorem dX2_expected_0 : decode cX2_expected 0 = .ok (.iload_n 1, 1) := by decide +kernel
theorem dX2_expected_1 : decode cX2_expected 1 = .ok (.iload_n 2, 1) := by decide +kernel
theorem dX2_expected_2 : decode cX2_expected 2 = .ok (.invokestatic 116, 3) := by decide +kernel
theorem dX2_expected_5 : decode cX2_expected 5 = .ok (.aload_n 0, 1) := by decide +kernel
theorem dX2_expected_6 : decode cX2_expected 6 = .ok (.iload_n 1, 1) := by decide +kernel
theorem dX2_expected_7 : decode cX2_expected 7 = .ok (.iload_n 2, 1) := by decide +kernel
theorem dX2_expected_8 : decode cX2_expected 8 = .ok (.iconst (-1), 1) := by decide +kernel
theorem dX2_expected_9 : decode cX2_expected 9 = .ok (.invokevirtual 120, 3) := by decide +kernel
theorem dX2_expected_12 : decode cX2_expected 12 = .ok (.ireturn, 1) := by decide +kernel
set_option maxRecDepth 20000 in
theorem ggX2_critical_X2_requireForecast : GoodIn wsX2_critical wsX2_requireForecast := goodIn_ca (goodIn_r _ [4, 5, 6, 3, 7, 8, 9, 10, 11, 12] (by decide +kernel) (by decide +kernel)) (goodIn_sub (fun _ h => List.mem_cons_of_mem _ (List.mem_append_right _ h)) (by decide +kernel))
set_option maxRecDepth 20000 in
theorem gX2_critical_X2_requireForecast : GoodIn wsX2_critical (va_wsS RX2 116 yX2_requireForecast wsX2_requireForecast) := goodIn_app (goodIn_of _ (by decide +kernel)) ggX2_critical_X2_requireForecast
set_option maxRecDepth 20000 in
theorem ggX2_critical_X2_criticalFan : GoodIn wsX2_critical wsX2_criticalFan := goodIn_r _ [16, 17, 18, 19, 20, 21, 3, 22, 23, 24, 25, 26, 27, 28, 29, 30, 31, 32, 33, 34, 35, 36, 37, 38, 39, 40, 41, 42, 43, 44, 45, 46, 47, 48, 49, 50, 51, 52, 53, 54, 55, 56, 57, 58, 59, 60, 61, 62, 63, 64, 65, 66, 67, 68, 69, 70, 71, 72, 73, 74, 75, 76, 77, 78, 79, 80, 81, 82, 83, 84, 85, 86, 87, 88, 89, 90, 91, 92, 93, 94, 95, 96, 97, 98, 99, 100, 101, 102, 103, 104, 105, 106, 107, 108, 109, 110, 111, 112, 113, 114, 115, 116, 117, 118, 119, 120, 121, 122] (by decide +kernel) (by decide +kernel)
set_option maxRecDepth 20000 in
theorem gX2_critical_X2_criticalFan : GoodIn wsX2_critical (wsV RX2 124 RX2 yX2_criticalFan wsX2_criticalFan) := goodIn_app (goodIn_of _ (by decide +kernel)) ggX2_critical_X2_criticalFan
theorem dX2_critical_0 : decode cX2_critical 0 = .ok (.iload_n 1, 1) := by decide +kernel
theorem dX2_critical_1 : decode cX2_critical 1 = .ok (.iload_n 2, 1) := by decide +kernel
theorem dX2_critical_2 : decode cX2_critical 2 = .ok (.invokestatic 116, 3) := by decide +kernel
theorem dX2_critical_5 : decode cX2_critical 5 = .ok (.aload_n 0, 1) := by decide +kernel
theorem dX2_critical_6 : decode cX2_critical 6 = .ok (.iload_n 1, 1) := by decide +kernel
theorem dX2_critical_7 : decode cX2_critical 7 = .ok (.iload_n 2, 1) := by decide +kernel
theorem dX2_critical_8 : decode cX2_critical 8 = .ok (.invokevirtual 124, 3) := by decide +kernel
theorem dX2_critical_11 : decode cX2_critical 11 = .ok (.ireturn, 1) := by decide +kernel
set_option maxRecDepth 20000 in
theorem ggX2_margin_X2_requireForecast : GoodIn wsX2_margin wsX2_requireForecast := goodIn_ca (goodIn_r _ [6, 7, 8, 5, 9, 10, 11, 12, 13, 14] (by decide +kernel) (by decide +kernel)) (goodIn_sub (fun _ h => List.mem_cons_of_mem _ (List.mem_append_right _ h)) (by decide +kernel))
set_option maxRecDepth 20000 in
theorem gX2_margin_X2_requireForecast : GoodIn wsX2_margin (va_wsS RX2 116 yX2_requireForecast wsX2_requireForecast) := goodIn_app (goodIn_of _ (by decide +kernel)) ggX2_margin_X2_requireForecast
set_option maxRecDepth 20000 in
theorem ggX2_margin_X2_criticalFan : GoodIn wsX2_margin wsX2_criticalFan := goodIn_r _ [18, 19, 20, 21, 22, 23, 5, 24, 25, 1, 26, 27, 28, 29, 30, 31, 32, 33, 34, 35, 36, 37, 38, 39, 40, 41, 42, 43, 44, 45, 46, 47, 48, 49, 50, 51, 52, 53, 54, 55, 56, 57, 58, 59, 60, 61, 62, 63, 64, 65, 66, 67, 68, 69, 70, 71, 72, 73, 74, 75, 76, 77, 78, 79, 80, 81, 82, 83, 84, 85, 86, 87, 88, 89, 90, 91, 92, 93, 94, 95, 96, 97, 98, 99, 100, 101, 102, 103, 104, 105, 106, 107, 108, 117, 118, 119, 120, 121, 122, 123, 109, 110, 111, 112, 113, 114, 115, 116] (by decide +kernel) (by decide +kernel)
set_option maxRecDepth 20000 in
theorem gX2_margin_X2_criticalFan : GoodIn wsX2_margin (wsV RX2 124 RX2 yX2_criticalFan wsX2_criticalFan) := goodIn_app (goodIn_of _ (by decide +kernel)) ggX2_margin_X2_criticalFan
set_option maxRecDepth 20000 in
theorem ggX2_margin_X2_greatestTemperature : GoodIn wsX2_margin wsX2_greatestTemperature := goodIn_r _ [24, 25, 19, 1, 26, 27, 28, 29, 30, 31, 32, 33, 34, 35, 36, 37, 38, 39, 40, 41, 42, 43, 44, 45, 46, 47, 48, 49, 50, 51, 52, 53, 54, 55, 56, 57, 58, 59, 60, 61, 62, 5, 63, 64, 65, 66, 67, 68, 69, 70, 71, 72, 73, 74, 75, 76, 77, 78, 79, 80, 81, 82, 83, 84, 85, 86, 87, 88, 89, 90, 91, 92, 93, 94, 95, 96, 97, 98, 99, 100, 101, 102, 103, 104, 105, 106, 107, 108, 117, 118, 119, 120, 121, 122, 123, 109, 110, 111, 112, 113, 114, 115, 116] (by decide +kernel) (by decide +kernel)
set_option maxRecDepth 20000 in
theorem gX2_margin_X2_greatestTemperature : GoodIn wsX2_margin (wsV RX2 120 RX2 yX2_greatestTemperature wsX2_greatestTemperature) := goodIn_app (goodIn_of _ (by decide +kernel)) ggX2_margin_X2_greatestTemperature
theorem dX2_margin_0 : decode cX2_margin 0 = .ok (.iload_n 1, 1) := by decide +kernel
theorem dX2_margin_1 : decode cX2_margin 1 = .ok (.iload_n 2, 1) := by decide +kernel
theorem dX2_margin_2 : decode cX2_margin 2 = .ok (.invokestatic 116, 3) := by decide +kernel
theorem dX2_margin_5 : decode cX2_margin 5 = .ok (.aload_n 0, 1) := by decide +kernel
theorem dX2_margin_6 : decode cX2_margin 6 = .ok (.iload_n 1, 1) := by decide +kernel
theorem dX2_margin_7 : decode cX2_margin 7 = .ok (.iload_n 2, 1) := by decide +kernel
theorem dX2_margin_8 : decode cX2_margin 8 = .ok (.invokevirtual 124, 3) := by decide +kernel
theorem dX2_margin_11 : decode cX2_margin 11 = .ok (.istore_n 3, 1) := by decide +kernel
theorem dX2_margin_12 : decode cX2_margin 12 = .ok (.aload_n 0, 1) := by decide +kernel
theorem dX2_margin_13 : decode cX2_margin 13 = .ok (.getfield 10, 3) := by decide +kernel
theorem dX2_margin_16 : decode cX2_margin 16 = .ok (.getfield 67, 3) := by decide +kernel
theorem dX2_margin_19 : decode cX2_margin 19 = .ok (.aload_n 0, 1) := by decide +kernel
theorem dX2_margin_20 : decode cX2_margin 20 = .ok (.iload_n 1, 1) := by decide +kernel
theorem dX2_margin_21 : decode cX2_margin 21 = .ok (.iload_n 2, 1) := by decide +kernel
theorem dX2_margin_22 : decode cX2_margin 22 = .ok (.iload_n 3, 1) := by decide +kernel
theorem dX2_margin_23 : decode cX2_margin 23 = .ok (.invokevirtual 120, 3) := by decide +kernel
theorem dX2_margin_26 : decode cX2_margin 26 = .ok (.isub, 1) := by decide +kernel
theorem dX2_margin_27 : decode cX2_margin 27 = .ok (.ireturn, 1) := by decide +kernel
set_option maxRecDepth 20000 in
theorem ggX2_criticalFan_X2_greatestTemperature : GoodIn wsX2_criticalFan wsX2_greatestTemperature := goodIn_r _ [7, 8, 1, 9, 10, 11, 12, 13, 14, 15, 16, 17, 18, 19, 20, 21, 22, 23, 24, 25, 26, 27, 28, 29, 30, 31, 32, 33, 34, 35, 36, 37, 38, 39, 40, 41, 42, 43, 44, 45, 46, 6, 47, 48, 49, 50, 51, 52, 53, 54, 55, 56, 57, 58, 59, 60, 61, 62, 63, 64, 65, 66, 67, 68, 69, 70, 71, 72, 73, 74, 75, 76, 77, 78, 79, 80, 81, 82, 83, 84, 85, 86, 87, 88, 89, 90, 91, 92, 93, 94, 95, 96, 97, 98, 99, 100, 101, 102, 103, 104, 105, 106, 107] (by decide +kernel) (by decide +kernel)
set_option maxRecDepth 20000 in
theorem gX2_criticalFan_X2_greatestTemperature : GoodIn wsX2_criticalFan (wsV RX2 120 RX2 yX2_greatestTemperature wsX2_greatestTemperature) := goodIn_app (goodIn_of _ (by decide +kernel)) ggX2_criticalFan_X2_greatestTemperature
theorem dX2_criticalFan_0 : decode cX2_criticalFan 0 = .ok (.iconst (-1), 1) := by decide +kernel
theorem dX2_criticalFan_1 : decode cX2_criticalFan 1 = .ok (.istore_n 3, 1) := by decide +kernel
theorem dX2_criticalFan_2 : decode cX2_criticalFan 2 = .ok (.iconst 0, 1) := by decide +kernel
theorem dX2_criticalFan_3 : decode cX2_criticalFan 3 = .ok (.istore 4, 2) := by decide +kernel
theorem dX2_criticalFan_5 : decode cX2_criticalFan 5 = .ok (.iconst 0, 1) := by decide +kernel
theorem dX2_criticalFan_6 : decode cX2_criticalFan 6 = .ok (.istore 5, 2) := by decide +kernel
theorem dX2_criticalFan_8 : decode cX2_criticalFan 8 = .ok (.iload 5, 2) := by decide +kernel
theorem dX2_criticalFan_10 : decode cX2_criticalFan 10 = .ok (.bipush 8, 2) := by decide +kernel
theorem dX2_criticalFan_12 : decode cX2_criticalFan 12 = .ok (.if_icmp .ge 51, 3) := by decide +kernel
theorem dX2_criticalFan_15 : decode cX2_criticalFan 15 = .ok (.aload_n 0, 1) := by decide +kernel
theorem dX2_criticalFan_16 : decode cX2_criticalFan 16 = .ok (.getfield 19, 3) := by decide +kernel
theorem dX2_criticalFan_19 : decode cX2_criticalFan 19 = .ok (.getfield 73, 3) := by decide +kernel
theorem dX2_criticalFan_22 : decode cX2_criticalFan 22 = .ok (.iload 5, 2) := by decide +kernel
theorem dX2_criticalFan_24 : decode cX2_criticalFan 24 = .ok (.baload, 1) := by decide +kernel
theorem dX2_criticalFan_25 : decode cX2_criticalFan 25 = .ok (.ifCond .ne 32, 3) := by decide +kernel
theorem dX2_criticalFan_28 : decode cX2_criticalFan 28 = .ok (.aload_n 0, 1) := by decide +kernel
theorem dX2_criticalFan_29 : decode cX2_criticalFan 29 = .ok (.iload_n 1, 1) := by decide +kernel
theorem dX2_criticalFan_30 : decode cX2_criticalFan 30 = .ok (.iload_n 2, 1) := by decide +kernel
theorem dX2_criticalFan_31 : decode cX2_criticalFan 31 = .ok (.iload 5, 2) := by decide +kernel
theorem dX2_criticalFan_33 : decode cX2_criticalFan 33 = .ok (.invokevirtual 120, 3) := by decide +kernel
theorem dX2_criticalFan_36 : decode cX2_criticalFan 36 = .ok (.istore 6, 2) := by decide +kernel
theorem dX2_criticalFan_38 : decode cX2_criticalFan 38 = .ok (.iload_n 3, 1) := by decide +kernel
theorem dX2_criticalFan_39 : decode cX2_criticalFan 39 = .ok (.iconst (-1), 1) := by decide +kernel
theorem dX2_criticalFan_40 : decode cX2_criticalFan 40 = .ok (.if_icmp .eq 10, 3) := by decide +kernel
theorem dX2_criticalFan_43 : decode cX2_criticalFan 43 = .ok (.iload 6, 2) := by decide +kernel
theorem dX2_criticalFan_45 : decode cX2_criticalFan 45 = .ok (.iload 4, 2) := by decide +kernel
theorem dX2_criticalFan_47 : decode cX2_criticalFan 47 = .ok (.if_icmp .le 10, 3) := by decide +kernel
theorem dX2_criticalFan_50 : decode cX2_criticalFan 50 = .ok (.iload 5, 2) := by decide +kernel
theorem dX2_criticalFan_52 : decode cX2_criticalFan 52 = .ok (.istore_n 3, 1) := by decide +kernel
theorem dX2_criticalFan_53 : decode cX2_criticalFan 53 = .ok (.iload 6, 2) := by decide +kernel
theorem dX2_criticalFan_55 : decode cX2_criticalFan 55 = .ok (.istore 4, 2) := by decide +kernel
theorem dX2_criticalFan_57 : decode cX2_criticalFan 57 = .ok (.iinc 5 1, 3) := by decide +kernel
theorem dX2_criticalFan_60 : decode cX2_criticalFan 60 = .ok (.goto (-52), 3) := by decide +kernel
theorem dX2_criticalFan_63 : decode cX2_criticalFan 63 = .ok (.iload_n 3, 1) := by decide +kernel
theorem dX2_criticalFan_64 : decode cX2_criticalFan 64 = .ok (.ireturn, 1) := by decide +kernel
set_option maxRecDepth 20000 in
theorem ggX2_greatestTemperature_X0_copyFrom : GoodIn wsX2_greatestTemperature wsX0_copyFrom := goodIn_r _ [13, 14, 15, 16, 17, 18, 19, 20, 21, 22, 23, 24, 88, 89, 90, 91, 92, 93, 94] (by decide +kernel) (by decide +kernel)
set_option maxRecDepth 20000 in
theorem gX2_greatestTemperature_X0_copyFrom : GoodIn wsX2_greatestTemperature (wsV RX2 128 RX0 yX0_copyFrom wsX0_copyFrom) := goodIn_app (goodIn_of _ (by decide +kernel)) ggX2_greatestTemperature_X0_copyFrom
set_option maxRecDepth 20000 in
theorem ggX2_greatestTemperature_X0_stopFan : GoodIn wsX2_greatestTemperature wsX0_stopFan := goodIn_r _ [28, 22, 21, 88, 89, 90, 91, 92, 93, 94] (by decide +kernel) (by decide +kernel)
set_option maxRecDepth 20000 in
theorem gX2_greatestTemperature_X0_stopFan : GoodIn wsX2_greatestTemperature (wsV RX2 84 RX0 yX0_stopFan wsX0_stopFan) := goodIn_app (goodIn_of _ (by decide +kernel)) ggX2_greatestTemperature_X0_stopFan
set_option maxRecDepth 20000 in
theorem ggX2_greatestTemperature_X0_runMinute : GoodIn wsX2_greatestTemperature wsX0_runMinute := goodIn_r _ [32, 20, 14, 33, 34, 35, 12, 36, 37, 19, 38, 39, 40, 41, 42, 43, 44, 7, 45, 5, 6, 8, 46, 47, 48, 49, 50, 51, 52, 53, 54, 22, 55, 56, 57, 58, 59, 24, 60, 61, 62, 63, 64, 65, 66, 23, 67, 68, 69, 70, 71, 72, 73, 74, 75, 76, 21, 77, 78, 79, 80, 81, 82, 88, 89, 90, 91, 92, 93, 94, 95, 96, 97, 98, 99, 100, 101, 102] (by decide +kernel) (by decide +kernel)
set_option maxRecDepth 20000 in
theorem gX2_greatestTemperature_X0_runMinute : GoodIn wsX2_greatestTemperature (wsV RX2 103 RX0 yX0_runMinute wsX0_runMinute) := goodIn_app (goodIn_of _ (by decide +kernel)) ggX2_greatestTemperature_X0_runMinute
theorem dX2_greatestTemperature_0 : decode cX2_greatestTemperature 0 = .ok (.aload_n 0, 1) := by decide +kernel
theorem dX2_greatestTemperature_1 : decode cX2_greatestTemperature 1 = .ok (.getfield 23, 3) := by decide +kernel
theorem dX2_greatestTemperature_4 : decode cX2_greatestTemperature 4 = .ok (.aload_n 0, 1) := by decide +kernel
theorem dX2_greatestTemperature_5 : decode cX2_greatestTemperature 5 = .ok (.getfield 19, 3) := by decide +kernel
theorem dX2_greatestTemperature_8 : decode cX2_greatestTemperature 8 = .ok (.invokevirtual 128, 3) := by decide +kernel
theorem dX2_greatestTemperature_11 : decode cX2_greatestTemperature 11 = .ok (.iload_n 3, 1) := by decide +kernel
theorem dX2_greatestTemperature_12 : decode cX2_greatestTemperature 12 = .ok (.iconst (-1), 1) := by decide +kernel
theorem dX2_greatestTemperature_13 : decode cX2_greatestTemperature 13 = .ok (.if_icmp .eq 11, 3) := by decide +kernel
theorem dX2_greatestTemperature_16 : decode cX2_greatestTemperature 16 = .ok (.aload_n 0, 1) := by decide +kernel
theorem dX2_greatestTemperature_17 : decode cX2_greatestTemperature 17 = .ok (.getfield 23, 3) := by decide +kernel
theorem dX2_greatestTemperature_20 : decode cX2_greatestTemperature 20 = .ok (.iload_n 3, 1) := by decide +kernel
theorem dX2_greatestTemperature_21 : decode cX2_greatestTemperature 21 = .ok (.invokevirtual 84, 3) := by decide +kernel
theorem dX2_greatestTemperature_24 : decode cX2_greatestTemperature 24 = .ok (.aload_n 0, 1) := by decide +kernel
theorem dX2_greatestTemperature_25 : decode cX2_greatestTemperature 25 = .ok (.getfield 23, 3) := by decide +kernel
theorem dX2_greatestTemperature_28 : decode cX2_greatestTemperature 28 = .ok (.aload_n 0, 1) := by decide +kernel
theorem dX2_greatestTemperature_29 : decode cX2_greatestTemperature 29 = .ok (.getfield 10, 3) := by decide +kernel
theorem dX2_greatestTemperature_32 : decode cX2_greatestTemperature 32 = .ok (.invokevirtual 103, 3) := by decide +kernel
theorem dX2_greatestTemperature_35 : decode cX2_greatestTemperature 35 = .ok (.aload_n 0, 1) := by decide +kernel
theorem dX2_greatestTemperature_36 : decode cX2_greatestTemperature 36 = .ok (.getfield 23, 3) := by decide +kernel
theorem dX2_greatestTemperature_39 : decode cX2_greatestTemperature 39 = .ok (.getfield 110, 3) := by decide +kernel
theorem dX2_greatestTemperature_42 : decode cX2_greatestTemperature 42 = .ok (.iload_n 1, 1) := by decide +kernel
theorem dX2_greatestTemperature_43 : decode cX2_greatestTemperature 43 = .ok (.iaload, 1) := by decide +kernel
theorem dX2_greatestTemperature_44 : decode cX2_greatestTemperature 44 = .ok (.istore 4, 2) := by decide +kernel
theorem dX2_greatestTemperature_46 : decode cX2_greatestTemperature 46 = .ok (.iconst 1, 1) := by decide +kernel
theorem dX2_greatestTemperature_47 : decode cX2_greatestTemperature 47 = .ok (.istore 5, 2) := by decide +kernel
theorem dX2_greatestTemperature_49 : decode cX2_greatestTemperature 49 = .ok (.iload 5, 2) := by decide +kernel
theorem dX2_greatestTemperature_51 : decode cX2_greatestTemperature 51 = .ok (.iload_n 2, 1) := by decide +kernel
theorem dX2_greatestTemperature_52 : decode cX2_greatestTemperature 52 = .ok (.if_icmp .ge 36, 3) := by decide +kernel
theorem dX2_greatestTemperature_55 : decode cX2_greatestTemperature 55 = .ok (.aload_n 0, 1) := by decide +kernel
theorem dX2_greatestTemperature_56 : decode cX2_greatestTemperature 56 = .ok (.getfield 23, 3) := by decide +kernel
theorem dX2_greatestTemperature_59 : decode cX2_greatestTemperature 59 = .ok (.aload_n 0, 1) := by decide +kernel
theorem dX2_greatestTemperature_60 : decode cX2_greatestTemperature 60 = .ok (.getfield 10, 3) := by decide +kernel
theorem dX2_greatestTemperature_63 : decode cX2_greatestTemperature 63 = .ok (.invokevirtual 103, 3) := by decide +kernel
theorem dX2_greatestTemperature_66 : decode cX2_greatestTemperature 66 = .ok (.iload 4, 2) := by decide +kernel
theorem dX2_greatestTemperature_68 : decode cX2_greatestTemperature 68 = .ok (.aload_n 0, 1) := by decide +kernel
theorem dX2_greatestTemperature_69 : decode cX2_greatestTemperature 69 = .ok (.getfield 23, 3) := by decide +kernel
theorem dX2_greatestTemperature_72 : decode cX2_greatestTemperature 72 = .ok (.getfield 110, 3) := by decide +kernel
theorem dX2_greatestTemperature_75 : decode cX2_greatestTemperature 75 = .ok (.iload_n 1, 1) := by decide +kernel
theorem dX2_greatestTemperature_76 : decode cX2_greatestTemperature 76 = .ok (.iaload, 1) := by decide +kernel
theorem dX2_greatestTemperature_77 : decode cX2_greatestTemperature 77 = .ok (.invokestatic 132, 3) := by decide +kernel
theorem dX2_greatestTemperature_80 : decode cX2_greatestTemperature 80 = .ok (.istore 4, 2) := by decide +kernel
theorem dX2_greatestTemperature_82 : decode cX2_greatestTemperature 82 = .ok (.iinc 5 1, 3) := by decide +kernel
theorem dX2_greatestTemperature_85 : decode cX2_greatestTemperature 85 = .ok (.goto (-36), 3) := by decide +kernel
theorem dX2_greatestTemperature_88 : decode cX2_greatestTemperature 88 = .ok (.iload 4, 2) := by decide +kernel
theorem dX2_greatestTemperature_90 : decode cX2_greatestTemperature 90 = .ok (.ireturn, 1) := by decide +kernel
theorem dX2_noteHotZones_0 : decode cX2_noteHotZones 0 = .ok (.iconst 0, 1) := by decide +kernel
theorem dX2_noteHotZones_1 : decode cX2_noteHotZones 1 = .ok (.istore_n 1, 1) := by decide +kernel
theorem dX2_noteHotZones_2 : decode cX2_noteHotZones 2 = .ok (.iconst 0, 1) := by decide +kernel
theorem dX2_noteHotZones_3 : decode cX2_noteHotZones 3 = .ok (.istore_n 2, 1) := by decide +kernel
theorem dX2_noteHotZones_4 : decode cX2_noteHotZones 4 = .ok (.iload_n 2, 1) := by decide +kernel
theorem dX2_noteHotZones_5 : decode cX2_noteHotZones 5 = .ok (.bipush 6, 2) := by decide +kernel
theorem dX2_noteHotZones_7 : decode cX2_noteHotZones 7 = .ok (.if_icmp .ge 41, 3) := by decide +kernel
theorem dX2_noteHotZones_10 : decode cX2_noteHotZones 10 = .ok (.aload_n 0, 1) := by decide +kernel
theorem dX2_noteHotZones_11 : decode cX2_noteHotZones 11 = .ok (.getfield 19, 3) := by decide +kernel
theorem dX2_noteHotZones_14 : decode cX2_noteHotZones 14 = .ok (.getfield 110, 3) := by decide +kernel
theorem dX2_noteHotZones_17 : decode cX2_noteHotZones 17 = .ok (.iload_n 2, 1) := by decide +kernel
theorem dX2_noteHotZones_18 : decode cX2_noteHotZones 18 = .ok (.iaload, 1) := by decide +kernel
theorem dX2_noteHotZones_19 : decode cX2_noteHotZones 19 = .ok (.aload_n 0, 1) := by decide +kernel
theorem dX2_noteHotZones_20 : decode cX2_noteHotZones 20 = .ok (.getfield 10, 3) := by decide +kernel
theorem dX2_noteHotZones_23 : decode cX2_noteHotZones 23 = .ok (.getfield 67, 3) := by decide +kernel
theorem dX2_noteHotZones_26 : decode cX2_noteHotZones 26 = .ok (.if_icmp .le 16, 3) := by decide +kernel
theorem dX2_noteHotZones_29 : decode cX2_noteHotZones 29 = .ok (.aload_n 0, 1) := by decide +kernel
theorem dX2_noteHotZones_30 : decode cX2_noteHotZones 30 = .ok (.getfield 26, 3) := by decide +kernel
theorem dX2_noteHotZones_33 : decode cX2_noteHotZones 33 = .ok (.iload_n 2, 1) := by decide +kernel
theorem dX2_noteHotZones_34 : decode cX2_noteHotZones 34 = .ok (.dup2, 1) := by decide +kernel
theorem dX2_noteHotZones_35 : decode cX2_noteHotZones 35 = .ok (.iaload, 1) := by decide +kernel
theorem dX2_noteHotZones_36 : decode cX2_noteHotZones 36 = .ok (.iconst 1, 1) := by decide +kernel
theorem dX2_noteHotZones_37 : decode cX2_noteHotZones 37 = .ok (.iadd, 1) := by decide +kernel
theorem dX2_noteHotZones_38 : decode cX2_noteHotZones 38 = .ok (.iastore, 1) := by decide +kernel
theorem dX2_noteHotZones_39 : decode cX2_noteHotZones 39 = .ok (.iinc 1 1, 3) := by decide +kernel
theorem dX2_noteHotZones_42 : decode cX2_noteHotZones 42 = .ok (.iinc 2 1, 3) := by decide +kernel
theorem dX2_noteHotZones_45 : decode cX2_noteHotZones 45 = .ok (.goto (-41), 3) := by decide +kernel
theorem dX2_noteHotZones_48 : decode cX2_noteHotZones 48 = .ok (.iload_n 1, 1) := by decide +kernel
theorem dX2_noteHotZones_49 : decode cX2_noteHotZones 49 = .ok (.ireturn, 1) := by decide +kernel
set_option maxRecDepth 20000 in
theorem ggX2_requireForecast_X2_requireZone : GoodIn wsX2_requireForecast wsX2_requireZone := goodIn_ca (goodIn_r _ [4, 5, 6, 3, 7, 8, 9] (by decide +kernel) (by decide +kernel)) (goodIn_sub (fun _ h => List.mem_cons_of_mem _ (List.mem_append_right _ h)) (by decide +kernel))
set_option maxRecDepth 20000 in
theorem gX2_requireForecast_X2_requireZone : GoodIn wsX2_requireForecast (va_wsS RX2 34 yX2_requireZone wsX2_requireZone) := goodIn_app (goodIn_of _ (by decide +kernel)) ggX2_requireForecast_X2_requireZone
set_option maxRecDepth 20000 in
theorem ggX2_requireForecast_X2_requireWithin : GoodIn wsX2_requireForecast wsX2_requireWithin := goodIn_ca (goodIn_r _ [7, 8, 9] (by decide +kernel) (by decide +kernel)) (goodIn_sub (fun _ h => List.mem_cons_of_mem _ (List.mem_append_right _ h)) (by decide +kernel))
set_option maxRecDepth 20000 in
theorem gX2_requireForecast_X2_requireWithin : GoodIn wsX2_requireForecast (va_wsS RX2 38 yX2_requireWithin wsX2_requireWithin) := goodIn_app (goodIn_of _ (by decide +kernel)) ggX2_requireForecast_X2_requireWithin
theorem dX2_requireForecast_0 : decode cX2_requireForecast 0 = .ok (.iload_n 0, 1) := by decide +kernel
theorem dX2_requireForecast_1 : decode cX2_requireForecast 1 = .ok (.invokestatic 34, 3) := by decide +kernel
theorem dX2_requireForecast_4 : decode cX2_requireForecast 4 = .ok (.iload_n 1, 1) := by decide +kernel
theorem dX2_requireForecast_5 : decode cX2_requireForecast 5 = .ok (.iconst 1, 1) := by decide +kernel
theorem dX2_requireForecast_6 : decode cX2_requireForecast 6 = .ok (.bipush 60, 2) := by decide +kernel
theorem dX2_requireForecast_8 : decode cX2_requireForecast 8 = .ok (.invokestatic 38, 3) := by decide +kernel
theorem dX2_requireForecast_11 : decode cX2_requireForecast 11 = .ok (.return_, 1) := by decide +kernel
set_option maxRecDepth 20000 in
theorem ggX2_requireZone_X2_requireWithin : GoodIn wsX2_requireZone wsX2_requireWithin := goodIn_ca (goodIn_r _ [4, 5, 6] (by decide +kernel) (by decide +kernel)) (goodIn_sub (fun _ h => List.mem_cons_of_mem _ (List.mem_append_right _ h)) (by decide +kernel))
set_option maxRecDepth 20000 in
theorem gX2_requireZone_X2_requireWithin : GoodIn wsX2_requireZone (va_wsS RX2 38 yX2_requireWithin wsX2_requireWithin) := goodIn_app (goodIn_of _ (by decide +kernel)) ggX2_requireZone_X2_requireWithin
theorem dX2_requireZone_0 : decode cX2_requireZone 0 = .ok (.iload_n 0, 1) := by decide +kernel
theorem dX2_requireZone_1 : decode cX2_requireZone 1 = .ok (.iconst 0, 1) := by decide +kernel
theorem dX2_requireZone_2 : decode cX2_requireZone 2 = .ok (.iconst 5, 1) := by decide +kernel
theorem dX2_requireZone_3 : decode cX2_requireZone 3 = .ok (.invokestatic 38, 3) := by decide +kernel
theorem dX2_requireZone_6 : decode cX2_requireZone 6 = .ok (.return_, 1) := by decide +kernel
set_option maxRecDepth 20000 in
theorem ggX2_requireFan_X2_requireWithin : GoodIn wsX2_requireFan wsX2_requireWithin := goodIn_ca (goodIn_r _ [4, 5, 6] (by decide +kernel) (by decide +kernel)) (goodIn_sub (fun _ h => List.mem_cons_of_mem _ (List.mem_append_right _ h)) (by decide +kernel))
set_option maxRecDepth 20000 in
theorem gX2_requireFan_X2_requireWithin : GoodIn wsX2_requireFan (va_wsS RX2 38 yX2_requireWithin wsX2_requireWithin) := goodIn_app (goodIn_of _ (by decide +kernel)) ggX2_requireFan_X2_requireWithin
theorem dX2_requireFan_0 : decode cX2_requireFan 0 = .ok (.iload_n 0, 1) := by decide +kernel
theorem dX2_requireFan_1 : decode cX2_requireFan 1 = .ok (.iconst 0, 1) := by decide +kernel
theorem dX2_requireFan_2 : decode cX2_requireFan 2 = .ok (.bipush 7, 2) := by decide +kernel
theorem dX2_requireFan_4 : decode cX2_requireFan 4 = .ok (.invokestatic 38, 3) := by decide +kernel
theorem dX2_requireFan_7 : decode cX2_requireFan 7 = .ok (.return_, 1) := by decide +kernel
theorem dX2_requireWithin_0 : decode cX2_requireWithin 0 = .ok (.iload_n 0, 1) := by decide +kernel
theorem dX2_requireWithin_1 : decode cX2_requireWithin 1 = .ok (.iload_n 1, 1) := by decide +kernel
theorem dX2_requireWithin_2 : decode cX2_requireWithin 2 = .ok (.if_icmp .lt 8, 3) := by decide +kernel
theorem dX2_requireWithin_5 : decode cX2_requireWithin 5 = .ok (.iload_n 0, 1) := by decide +kernel
theorem dX2_requireWithin_6 : decode cX2_requireWithin 6 = .ok (.iload_n 2, 1) := by decide +kernel
theorem dX2_requireWithin_7 : decode cX2_requireWithin 7 = .ok (.if_icmp .le 13, 3) := by decide +kernel
theorem dX2_requireWithin_10 : decode cX2_requireWithin 10 = .ok (.new 137, 3) := by decide +kernel
theorem dX2_requireWithin_13 : decode cX2_requireWithin 13 = .ok (.dup, 1) := by decide +kernel
theorem dX2_requireWithin_14 : decode cX2_requireWithin 14 = .ok (.ldc 139, 2) := by decide +kernel
theorem dX2_requireWithin_16 : decode cX2_requireWithin 16 = .ok (.invokespecial 141, 3) := by decide +kernel
theorem dX2_requireWithin_19 : decode cX2_requireWithin 19 = .ok (.athrow, 1) := by decide +kernel
theorem dX2_requireWithin_20 : decode cX2_requireWithin 20 = .ok (.return_, 1) := by decide +kernel
end
section
abbrev rmJ9_floorDiv_7cf53 : Room := { frames := 0, cells := 0, slots := 0, locals := 0 }
set_option maxHeartbeats 4000000 in
set_option maxRecDepth 100000 in
/-- Math.floorDiv -/
theorem c_J9_floorDiv_7cf53 (l : Launch) (D : va_G) (cI cZ cO cJ : ClassId) (x y : Int32) (sz : Nat) (hy : ¬ y = 0) : kMi l yJ9_floorDiv_7cf53 wsJ9_floorDiv_7cf53 rmJ9_floorDiv_7cf53 D (kT cI cZ cO cJ) [.int x, .int y] ([]) ([]) sz (mFd x y) := by
  refine kEnter (cc := cJ9_floorDiv_7cf53) (maxL := 3) (ret := some .int) (by decide +kernel) rfl (Nat.le_of_ble_eq_true rfl) ?_
  intro p e s m below meth c args hx hb hr hml hts hown hlocks hin hK hN A hA9 Q hQ9 hP hD hsz hS hA ls hl
  have hl : lv_has ls 3 [(0, .int x), (1, .int y)] := hl
  obtain ⟨H, hH9⟩ : ∃ H, H = s.heap := ⟨_, rfl⟩
  rw [← hH9] at hP ⊢
  have hS : va_S A s.heap H [] := by rw [hH9]; exact va_S.rf
  refine lv_iload_n hx hb dJ9_floorDiv_7cf53_0 rfl (lv_at hl 0 rfl) ?_
  refine lv_iload_n hx hb dJ9_floorDiv_7cf53_1 rfl (lv_at hl 1 rfl) ?_
  refine lv_idiv hx hb dJ9_floorDiv_7cf53_2 hy ?_
  refine lv_istore_n (lv' := [(2, .int (x / y)), (0, .int x), (1, .int y)]) hx hb dJ9_floorDiv_7cf53_3 rfl hl (by decide) rfl (fun ls hl => ?_)
  refine lv_iload_n hx hb dJ9_floorDiv_7cf53_4 rfl (lv_at hl 1 rfl) ?_
  refine lv_iload_n hx hb dJ9_floorDiv_7cf53_5 rfl (lv_at hl 2 rfl) ?_
  refine lv_ixor hx hb dJ9_floorDiv_7cf53_6 ?_
  refine lv_if_ge (tgt := 21) hx hb dJ9_floorDiv_7cf53_7 (by decide) (fun c1 => ?_) (fun c1 => ?_)
  · refine lv_iload_n hx hb dJ9_floorDiv_7cf53_21 rfl (lv_at hl 0 rfl) ?_
    subst hQ9
    subst hA9
    exact kRet_i hx hb hr hlocks hP hS dJ9_floorDiv_7cf53_22 (by unfold mFd; rw [if_pos c1])
  · refine lv_iload_n hx hb dJ9_floorDiv_7cf53_10 rfl (lv_at hl 0 rfl) ?_
    refine lv_iload_n hx hb dJ9_floorDiv_7cf53_11 rfl (lv_at hl 2 rfl) ?_
    refine lv_imul hx hb dJ9_floorDiv_7cf53_12 ?_
    refine lv_iload_n hx hb dJ9_floorDiv_7cf53_13 rfl (lv_at hl 1 rfl) ?_
    refine lv_icmp_eq (tgt := 21) hx hb dJ9_floorDiv_7cf53_14 (by decide) (fun c2 => ?_) (fun c2 => ?_)
    · refine lv_iload_n hx hb dJ9_floorDiv_7cf53_21 rfl (lv_at hl 0 rfl) ?_
      subst hQ9
      subst hA9
      exact kRet_i hx hb hr hlocks hP hS dJ9_floorDiv_7cf53_22 (by unfold mFd; rw [if_neg c1, if_pos c2])
    · refine lv_iload_n hx hb dJ9_floorDiv_7cf53_17 rfl (lv_at hl 0 rfl) ?_
      refine lv_iconst (v := nI 1) hx hb dJ9_floorDiv_7cf53_18 (by decide +kernel) ?_
      refine lv_isub hx hb dJ9_floorDiv_7cf53_19 ?_
      subst hQ9
      subst hA9
      exact kRet_i hx hb hr hlocks hP hS dJ9_floorDiv_7cf53_20 (by unfold mFd; rw [if_neg c1, if_neg c2]; rfl)

abbrev rmJ9_floorMod_7cf53 : Room := { frames := 0, cells := 0, slots := 0, locals := 0 }
set_option maxHeartbeats 4000000 in
set_option maxRecDepth 100000 in
/-- Math.floorMod -/
theorem c_J9_floorMod_7cf53 (l : Launch) (D : va_G) (cI cZ cO cJ : ClassId) (x y : Int32) (sz : Nat) (hy : ¬ y = 0) : kMi l yJ9_floorMod_7cf53 wsJ9_floorMod_7cf53 rmJ9_floorMod_7cf53 D (kT cI cZ cO cJ) [.int x, .int y] ([]) ([]) sz (mFm x y) := by
  refine kEnter (cc := cJ9_floorMod_7cf53) (maxL := 3) (ret := some .int) (by decide +kernel) rfl (Nat.le_of_ble_eq_true rfl) ?_
  intro p e s m below meth c args hx hb hr hml hts hown hlocks hin hK hN A hA9 Q hQ9 hP hD hsz hS hA ls hl
  have hl : lv_has ls 3 [(0, .int x), (1, .int y)] := hl
  obtain ⟨H, hH9⟩ : ∃ H, H = s.heap := ⟨_, rfl⟩
  rw [← hH9] at hP ⊢
  have hS : va_S A s.heap H [] := by rw [hH9]; exact va_S.rf
  refine lv_iload_n hx hb dJ9_floorMod_7cf53_0 rfl (lv_at hl 0 rfl) ?_
  refine lv_iload_n hx hb dJ9_floorMod_7cf53_1 rfl (lv_at hl 1 rfl) ?_
  refine lv_irem hx hb dJ9_floorMod_7cf53_2 hy ?_
  refine lv_istore_n (lv' := [(2, .int (x - x / y * y)), (0, .int x), (1, .int y)]) hx hb dJ9_floorMod_7cf53_3 rfl hl (by decide) rfl (fun ls hl => ?_)
  refine lv_iload_n hx hb dJ9_floorMod_7cf53_4 rfl (lv_at hl 1 rfl) ?_
  refine lv_iload_n hx hb dJ9_floorMod_7cf53_5 rfl (lv_at hl 2 rfl) ?_
  refine lv_ixor hx hb dJ9_floorMod_7cf53_6 ?_
  refine lv_if_ge (tgt := 18) hx hb dJ9_floorMod_7cf53_7 (by decide) (fun c1 => ?_) (fun c1 => ?_)
  · refine lv_iload_n hx hb dJ9_floorMod_7cf53_18 rfl (lv_at hl 0 rfl) ?_
    subst hQ9
    subst hA9
    exact kRet_i hx hb hr hlocks hP hS dJ9_floorMod_7cf53_19 (by unfold mFm; rw [if_pos c1])
  · refine lv_iload_n hx hb dJ9_floorMod_7cf53_10 rfl (lv_at hl 0 rfl) ?_
    refine lv_if_eq (tgt := 18) hx hb dJ9_floorMod_7cf53_11 (by decide) (fun c2 => ?_) (fun c2 => ?_)
    · refine lv_iload_n hx hb dJ9_floorMod_7cf53_18 rfl (lv_at hl 0 rfl) ?_
      subst hQ9
      subst hA9
      exact kRet_i hx hb hr hlocks hP hS dJ9_floorMod_7cf53_19 (by unfold mFm; rw [if_neg c1, if_pos c2])
    · refine lv_iload_n hx hb dJ9_floorMod_7cf53_14 rfl (lv_at hl 0 rfl) ?_
      refine lv_iload_n hx hb dJ9_floorMod_7cf53_15 rfl (lv_at hl 2 rfl) ?_
      refine lv_iadd hx hb dJ9_floorMod_7cf53_16 ?_
      subst hQ9
      subst hA9
      exact kRet_i hx hb hr hlocks hP hS dJ9_floorMod_7cf53_17 (by unfold mFm; rw [if_neg c1, if_neg c2])

abbrev rmX2_holdWithin : Room := { frames := 1, cells := 0, slots := 0, locals := 21 }
set_option maxHeartbeats 4000000 in
set_option maxRecDepth 100000 in
/-- holdWithin -/
theorem c_X2_holdWithin (l : Launch) (D : va_G) (cI cZ cO cJ : ClassId) (v lo hi : Int32) (sz : Nat) : kMi l yX2_holdWithin wsX2_holdWithin rmX2_holdWithin D (kT cI cZ cO cJ) [.int v, .int lo, .int hi] ([]) ([]) sz (mHold v lo hi) := by
  refine kEnter (cc := cX2_holdWithin) (maxL := 3) (ret := some .int) (by decide +kernel) rfl (Nat.le_of_ble_eq_true rfl) ?_
  intro p e s m below meth c args hx hb hr hml hts hown hlocks hin hK hN A hA9 Q hQ9 hP hD hsz hS hA ls hl
  have hl : lv_has ls 3 [(0, .int v), (1, .int lo), (2, .int hi)] := hl
  obtain ⟨H, hH9⟩ : ∃ H, H = s.heap := ⟨_, rfl⟩
  rw [← hH9] at hP ⊢
  have hS : va_S A s.heap H [] := by rw [hH9]; exact va_S.rf
  refine lv_iload_n hx hb dX2_holdWithin_0 rfl (lv_at hl 1 rfl) ?_
  refine lv_iload_n hx hb dX2_holdWithin_1 rfl (lv_at hl 2 rfl) ?_
  refine lv_iload_n hx hb dX2_holdWithin_2 rfl (lv_at hl 0 rfl) ?_
  refine va_mmin hx hb (by rw [hml]; exact hl.1.symm) hown (hts (.methodLink RX2 142 Lib.Math.min.name) (by decide +kernel)) (hts (.static Lib.Math.min.name) (by decide +kernel)) (hts (.initialized "java/lang/Math") (by decide +kernel)) (hts (.code Lib.Math.min.name Lib.Math.min.code 2 (some .int)) (by decide +kernel)) (Nat.le_of_ble_eq_true rfl) (Nat.le_of_ble_eq_true rfl) (Nat.zero_le _) (Nat.zero_le _) (x := hi) (y := v) dX2_holdWithin_3 ?_
  refine k_as (y := mMin hi v) rfl ?_
  refine va_mmax hx hb (by rw [hml]; exact hl.1.symm) hown (hts (.methodLink RX2 132 Lib.Math.max.name) (by decide +kernel)) (hts (.static Lib.Math.max.name) (by decide +kernel)) (hts (.initialized "java/lang/Math") (by decide +kernel)) (hts (.code Lib.Math.max.name Lib.Math.max.code 2 (some .int)) (by decide +kernel)) (Nat.le_of_ble_eq_true rfl) (Nat.le_of_ble_eq_true rfl) (Nat.zero_le _) (Nat.zero_le _) (x := lo) (y := mMin hi v) dX2_holdWithin_6 ?_
  refine k_as (y := mMax lo (mMin hi v)) rfl ?_
  subst hQ9
  subst hA9
  exact kRet_i hx hb hr hlocks hP hS dX2_holdWithin_9 rfl

abbrev rmX0_commandsAgo : Room := { frames := 1, cells := 0, slots := 0, locals := 22 }
set_option maxHeartbeats 4000000 in
set_option maxRecDepth 100000 in
/-- commandsAgo -/
theorem c_X0_commandsAgo (l : Launch) (D : va_G) (cI cZ cO cJ : ClassId) (a b : Nat → Nat) (T E Dm F S : Nat → Int32) (C : Nat → Nat → Int32) (la : Nat) (Lo Se : Nat → Int32) (Ef : Nat → Nat → Int32) (gp gi am li : Int32) (dl : Nat) (k : Nat) (sz : Nat) (h1 : la < 9) (h2 : k < 9) : kMr l yX0_commandsAgo wsX0_commandsAgo rmX0_commandsAgo D (kT cI cZ cO cJ) [.ref (a 0), .int (nI k)] (wH cI cZ cO a b T E Dm F S C la Lo Se Ef gp gi am li dl) (wH cI cZ cO a b T E Dm F S C la Lo Se Ef gp gi am li dl) sz (a (7 + (la + 9 - k) % 9)) := by
  refine kEnter (cc := cX0_commandsAgo) (maxL := 2) (ret := some (.array .int)) (by decide +kernel) rfl (Nat.le_of_ble_eq_true rfl) ?_
  intro p e s m below meth c args hx hb hr hml hts hown hlocks hin hK hN A hA9 Q hQ9 hP hD hsz hS hA ls hl
  have hl : lv_has ls 2 [(0, .ref (a 0)), (1, .int (nI k))] := hl
  have hi_X0 : ∀ w ∈ u_ws RX0 TX0 7, w ∈ wsX0_commandsAgo := by decide +kernel
  obtain ⟨H, hH9⟩ : ∃ H, H = s.heap := ⟨_, rfl⟩
  rw [← hH9] at hP ⊢
  have hS : va_S A s.heap H [] := by rw [hH9]; exact va_S.rf
  refine lv_aload_n hx hb dX0_commandsAgo_0 rfl (lv_at hl 0 rfl) ?_
  refine va_get (D := D) (ci := 0) (v := .ref (a 6)) (C := RX0) (T := TX0) (N := 7) hx hb hts hi_X0 hown hK hP 0 rfl rfl 5 (by decide) (hts (.fieldLink RX0 30 "Coldaisle$Hall" "commands" "[[I") (by decide +kernel)) (fun _ h9 => h9) rfl dX0_commandsAgo_1 ?_
  refine lv_aload_n hx hb dX0_commandsAgo_4 rfl (lv_at hl 0 rfl) ?_
  refine va_get (D := D) (ci := 0) (v := .int (nI la)) (C := RX0) (T := TX0) (N := 7) hx hb hts hi_X0 hown hK hP 0 rfl rfl 6 (by decide) (hts (.fieldLink RX0 33 "Coldaisle$Hall" "lastMinute" "I") (by decide +kernel)) (fun _ h9 => h9) rfl dX0_commandsAgo_5 ?_
  refine lv_iload_n hx hb dX0_commandsAgo_8 rfl (lv_at hl 1 rfl) ?_
  refine lv_isub hx hb dX0_commandsAgo_9 ?_
  refine lv_bipush (v := nI 9) hx hb dX0_commandsAgo_10 (by decide +kernel) ?_
  refine kCall_i (W0 := []) (W1 := []) hP hD hS hA [] rfl rfl (va_runS (As := [.int ((nI la) - (nI k)), .int (nI 9)]) (rest := [.ref (a 6)]) ⟨hx, hb, hml, hown, hts⟩ (c_J9_floorMod_7cf53 l D cI cZ cO cJ ((nI la) - (nI k)) (nI 9) H.size (by decide +kernel)) (va_cwS (rm := rmJ9_floorMod_7cf53) 2 hts gX0_commandsAgo_J9_floorMod_7cf53 rfl rfl rfl (by decide +kernel) ⟨Nat.le_of_ble_eq_true rfl, Nat.le_of_ble_eq_true rfl⟩) (kPreS hK hN hP hD [] rfl rfl) rfl rfl hl.1 rfl (lv_room (Nat.le_of_ble_eq_true rfl)) dX0_commandsAgo_12 ⟨Nat.zero_le _, Nat.zero_le _⟩) (fun H locs hP hD hS => ?_)
  have hP : va_P D vwCl (wH cI cZ cO a b T E Dm F S C la Lo Se Ef gp gi am li dl) H := hP
  have hD : va_D A (wH cI cZ cO a b T E Dm F S C la Lo Se Ef gp gi am li dl) := hD
  refine k_as (mAgo h1 h2) ?_
  refine k_aald hx hb hK hP 6 2 rfl rfl (i := (la + 9 - k) % 9) (by omega) (by decide) dX0_commandsAgo_15 ?_
  subst hQ9
  subst hA9
  exact kRet_r hx hb hr hlocks hP hS dX0_commandsAgo_16

abbrev rmX0_control : Room := { frames := 2, cells := 0, slots := 0, locals := 43 }
set_option maxHeartbeats 4000000 in
set_option maxRecDepth 100000 in
/-- control -/
theorem c_X0_control (l : Launch) (D : va_G) (cI cZ cO cJ : ClassId) (a b : Nat → Nat) (T E Dm F S : Nat → Int32) (C : Nat → Nat → Int32) (la : Nat) (Lo Se : Nat → Int32) (Ef : Nat → Nat → Int32) (gp gi am li : Int32) (dl : Nat) (z : Nat) (sz : Nat) (hz : z < 6) : kMi l yX0_control wsX0_control rmX0_control D (kT cI cZ cO cJ) [.ref (a 0), .ref (b 0), .int (nI z)] (wH cI cZ cO a b T E Dm F S C la Lo Se Ef gp gi am li dl) (wH cI cZ cO a b T (upd E z (mEr (T z) (E z) (Se z))) Dm F S C la Lo Se Ef gp gi am li dl) sz (mWa gp gi (T z) (Se z) (mEr (T z) (E z) (Se z))) := by
  refine kEnter (cc := cX0_control) (maxL := 7) (ret := some .int) (by decide +kernel) rfl (Nat.le_of_ble_eq_true rfl) ?_
  intro p e s m below meth c args hx hb hr hml hts hown hlocks hin hK hN A hA9 Q hQ9 hP hD hsz hS hA ls hl
  have hl : lv_has ls 7 [(0, .ref (a 0)), (1, .ref (b 0)), (2, .int (nI z))] := hl
  have hi_X0 : ∀ w ∈ u_ws RX0 TX0 7, w ∈ wsX0_control := by decide +kernel
  have hi_X1 : ∀ w ∈ u_ws RX1 TX1 8, w ∈ wsX0_control := by decide +kernel
  obtain ⟨H, hH9⟩ : ∃ H, H = s.heap := ⟨_, rfl⟩
  rw [← hH9] at hP ⊢
  have hS : va_S A s.heap H [] := by rw [hH9]; exact va_S.rf
  refine lv_aload_n hx hb dX0_control_0 rfl (lv_at hl 0 rfl) ?_
  refine va_get (D := D) (ci := 0) (v := .ref (a 1)) (C := RX0) (T := TX0) (N := 7) hx hb hts hi_X0 hown hK hP 0 rfl rfl 0 (by decide) (hts (.fieldLink RX0 9 "Coldaisle$Hall" "temperature" "[I") (by decide +kernel)) (fun _ h9 => h9) rfl dX0_control_1 ?_
  refine lv_iload_n hx hb dX0_control_4 rfl (lv_at hl 2 rfl) ?_
  refine k_iald hx hb hK hP 1 0 rfl rfl (i := z) (by omega) (by decide) dX0_control_5 ?_
  refine lv_aload_n hx hb dX0_control_6 rfl (lv_at hl 1 rfl) ?_
  refine va_get (D := D) (ci := 1) (v := .ref (b 2)) (C := RX1) (T := TX1) (N := 8) hx hb hts hi_X1 hown hK hP 7 rfl rfl 1 (by decide) (hts (.fieldLink RX0 67 "Coldaisle$Settings" "setpoint" "[I") (by decide +kernel)) (fun _ h9 => h9) rfl dX0_control_7 ?_
  refine lv_iload_n hx hb dX0_control_10 rfl (lv_at hl 2 rfl) ?_
  refine k_iald hx hb hK hP 9 0 rfl rfl (i := z) (by omega) (by decide) dX0_control_11 ?_
  refine lv_isub hx hb dX0_control_12 ?_
  refine lv_istore_n (lv' := [(3, .int ((T z) - (Se z))), (0, .ref (a 0)), (1, .ref (b 0)), (2, .int (nI z))]) hx hb dX0_control_13 rfl hl (by decide) rfl (fun ls hl => ?_)
  refine lv_aload_n hx hb dX0_control_14 rfl (lv_at hl 1 rfl) ?_
  refine va_get (D := D) (ci := 0) (v := .ref (a 2)) (C := RX0) (T := TX0) (N := 7) hx hb hts hi_X0 hown hK hP 0 rfl rfl 1 (by decide) (hts (.fieldLink RX0 15 "Coldaisle$Hall" "errors" "[I") (by decide +kernel)) (fun _ h9 => h9) rfl dX0_control_15 ?_
  refine lv_iload_n hx hb dX0_control_18 rfl (lv_at hl 3 rfl) ?_
  refine k_iald hx hb hK hP 2 0 rfl rfl (i := z) (by omega) (by decide) dX0_control_19 ?_
  refine lv_iload_n hx hb dX0_control_20 rfl (lv_at hl 0 rfl) ?_
  refine lv_iadd hx hb dX0_control_21 ?_
  refine lv_sipush (v := (-20000)) hx hb dX0_control_22 (by decide +kernel) ?_
  refine lv_sipush (v := nI 20000) hx hb dX0_control_25 (by decide +kernel) ?_
  refine kCall_i (W0 := []) (W1 := []) hP hD hS hA [] rfl rfl (va_runSN (As := [.int ((E z) + ((T z) - (Se z))), .int (-20000), .int (nI 20000)]) (rest := []) ⟨hx, hb, hml, hown, hts⟩ (c_X2_holdWithin l D cI cZ cO cJ ((E z) + ((T z) - (Se z))) (-20000) (nI 20000) H.size) ⟨va_cnB (rm := rmX2_holdWithin) 3 hts gX0_control_X2_holdWithin_n72 rfl rfl rfl hN (hts (.initialized RX2) (by decide +kernel)) (by decide +kernel) ⟨Nat.le_of_ble_eq_true rfl, Nat.le_of_ble_eq_true rfl⟩, hts (.static yX2_holdWithin) (by decide +kernel), trivial⟩ (kPreS hK hN hP hD [] rfl rfl) rfl rfl hl.1 rfl (lv_room (Nat.le_of_ble_eq_true rfl)) dX0_control_28 ⟨Nat.zero_le _, Nat.zero_le _⟩) (fun H locs hP hD hS => ?_)
  have hP : va_P D vwCl (wH cI cZ cO a b T E Dm F S C la Lo Se Ef gp gi am li dl) H := hP
  have hD : va_D A (wH cI cZ cO a b T E Dm F S C la Lo Se Ef gp gi am li dl) := hD
  refine lv_istore (lv' := [(4, .int (mHold ((E z) + ((T z) - (Se z))) (-20000) (nI 20000))), (3, .int ((T z) - (Se z))), (0, .ref (a 0)), (1, .ref (b 0)), (2, .int (nI z))]) hx hb dX0_control_31 hl (by decide) rfl (fun ls hl => ?_)
  refine lv_aload_n hx hb dX0_control_33 rfl (lv_at hl 2 rfl) ?_
  refine va_get (D := D) (ci := 0) (v := .ref (a 2)) (C := RX0) (T := TX0) (N := 7) hx hb hts hi_X0 hown hK hP 0 rfl rfl 1 (by decide) (hts (.fieldLink RX0 15 "Coldaisle$Hall" "errors" "[I") (by decide +kernel)) (fun _ h9 => h9) rfl dX0_control_34 ?_
  refine lv_iload_n hx hb dX0_control_37 rfl (lv_at hl 4 rfl) ?_
  refine lv_iload hx hb dX0_control_38 (lv_at hl 0 rfl) ?_
  refine k_iast hx hb hK hP hD hS 2 0 rfl rfl (i := z) (x := mHold ((E z) + ((T z) - (Se z))) (-20000) (nI 20000)) (by omega) (by decide) dX0_control_40 (fun H locs hP hD hS => ?_)
  have hP : va_P D vwCl (wH cI cZ cO a b T (upd E z (mHold ((E z) + ((T z) - (Se z))) (-20000) (nI 20000))) Dm F S C la Lo Se Ef gp gi am li dl) H := hP
  have hD : va_D A (wH cI cZ cO a b T (upd E z (mHold ((E z) + ((T z) - (Se z))) (-20000) (nI 20000))) Dm F S C la Lo Se Ef gp gi am li dl) := hD
  refine lv_aload_n hx hb dX0_control_41 rfl (lv_at hl 3 rfl) ?_
  refine va_get (D := D) (ci := 1) (v := .int gi) (C := RX1) (T := TX1) (N := 8) hx hb hts hi_X1 hown hK hP 7 rfl rfl 4 (by decide) (hts (.fieldLink RX0 76 "Coldaisle$Settings" "integral" "I") (by decide +kernel)) (fun _ h9 => h9) rfl dX0_control_42 ?_
  refine lv_iload hx hb dX0_control_45 (lv_at hl 0 rfl) ?_
  refine lv_imul hx hb dX0_control_47 ?_
  refine lv_bipush (v := nI 100) hx hb dX0_control_48 (by decide +kernel) ?_
  refine kCall_i (W0 := []) (W1 := []) hP hD hS hA [] rfl rfl (va_runS (As := [.int (gi * (mHold ((E z) + ((T z) - (Se z))) (-20000) (nI 20000))), .int (nI 100)]) (rest := []) ⟨hx, hb, hml, hown, hts⟩ (c_J9_floorDiv_7cf53 l D cI cZ cO cJ (gi * (mHold ((E z) + ((T z) - (Se z))) (-20000) (nI 20000))) (nI 100) H.size (by decide +kernel)) (va_cwS (rm := rmJ9_floorDiv_7cf53) 2 hts gX0_control_J9_floorDiv_7cf53 rfl rfl rfl (by decide +kernel) ⟨Nat.le_of_ble_eq_true rfl, Nat.le_of_ble_eq_true rfl⟩) (kPreS hK hN hP hD [] rfl rfl) rfl rfl hl.1 rfl (lv_room (Nat.le_of_ble_eq_true rfl)) dX0_control_50 ⟨Nat.zero_le _, Nat.zero_le _⟩) (fun H locs hP hD hS => ?_)
  have hP : va_P D vwCl (wH cI cZ cO a b T (upd E z (mHold ((E z) + ((T z) - (Se z))) (-20000) (nI 20000))) Dm F S C la Lo Se Ef gp gi am li dl) H := hP
  have hD : va_D A (wH cI cZ cO a b T (upd E z (mHold ((E z) + ((T z) - (Se z))) (-20000) (nI 20000))) Dm F S C la Lo Se Ef gp gi am li dl) := hD
  refine lv_istore (lv' := [(5, .int (mFd (gi * (mHold ((E z) + ((T z) - (Se z))) (-20000) (nI 20000))) (nI 100))), (4, .int (mHold ((E z) + ((T z) - (Se z))) (-20000) (nI 20000))), (3, .int ((T z) - (Se z))), (0, .ref (a 0)), (1, .ref (b 0)), (2, .int (nI z))]) hx hb dX0_control_53 hl (by decide) rfl (fun ls hl => ?_)
  refine lv_aload_n hx hb dX0_control_55 rfl (lv_at hl 4 rfl) ?_
  refine va_get (D := D) (ci := 1) (v := .int gp) (C := RX1) (T := TX1) (N := 8) hx hb hts hi_X1 hown hK hP 7 rfl rfl 3 (by decide) (hts (.fieldLink RX0 82 "Coldaisle$Settings" "proportional" "I") (by decide +kernel)) (fun _ h9 => h9) rfl dX0_control_56 ?_
  refine lv_iload_n hx hb dX0_control_59 rfl (lv_at hl 2 rfl) ?_
  refine lv_imul hx hb dX0_control_60 ?_
  refine lv_iload hx hb dX0_control_61 (lv_at hl 0 rfl) ?_
  refine lv_iadd hx hb dX0_control_63 ?_
  refine lv_bipush (v := nI 100) hx hb dX0_control_64 (by decide +kernel) ?_
  refine kCall_i (W0 := []) (W1 := []) hP hD hS hA [] rfl rfl (va_runS (As := [.int ((gp * ((T z) - (Se z))) + (mFd (gi * (mHold ((E z) + ((T z) - (Se z))) (-20000) (nI 20000))) (nI 100))), .int (nI 100)]) (rest := []) ⟨hx, hb, hml, hown, hts⟩ (c_J9_floorDiv_7cf53 l D cI cZ cO cJ ((gp * ((T z) - (Se z))) + (mFd (gi * (mHold ((E z) + ((T z) - (Se z))) (-20000) (nI 20000))) (nI 100))) (nI 100) H.size (by decide +kernel)) (va_cwS (rm := rmJ9_floorDiv_7cf53) 2 hts gX0_control_J9_floorDiv_7cf53 rfl rfl rfl (by decide +kernel) ⟨Nat.le_of_ble_eq_true rfl, Nat.le_of_ble_eq_true rfl⟩) (kPreS hK hN hP hD [] rfl rfl) rfl rfl hl.1 rfl (lv_room (Nat.le_of_ble_eq_true rfl)) dX0_control_66 ⟨Nat.zero_le _, Nat.zero_le _⟩) (fun H locs hP hD hS => ?_)
  have hP : va_P D vwCl (wH cI cZ cO a b T (upd E z (mHold ((E z) + ((T z) - (Se z))) (-20000) (nI 20000))) Dm F S C la Lo Se Ef gp gi am li dl) H := hP
  have hD : va_D A (wH cI cZ cO a b T (upd E z (mHold ((E z) + ((T z) - (Se z))) (-20000) (nI 20000))) Dm F S C la Lo Se Ef gp gi am li dl) := hD
  refine lv_istore (lv' := [(6, .int (mFd ((gp * ((T z) - (Se z))) + (mFd (gi * (mHold ((E z) + ((T z) - (Se z))) (-20000) (nI 20000))) (nI 100))) (nI 100))), (5, .int (mFd (gi * (mHold ((E z) + ((T z) - (Se z))) (-20000) (nI 20000))) (nI 100))), (4, .int (mHold ((E z) + ((T z) - (Se z))) (-20000) (nI 20000))), (3, .int ((T z) - (Se z))), (0, .ref (a 0)), (1, .ref (b 0)), (2, .int (nI z))]) hx hb dX0_control_69 hl (by decide) rfl (fun ls hl => ?_)
  refine lv_iload hx hb dX0_control_71 (lv_at hl 0 rfl) ?_
  refine lv_iconst (v := nI 0) hx hb dX0_control_73 (by decide +kernel) ?_
  refine lv_bipush (v := nI 100) hx hb dX0_control_74 (by decide +kernel) ?_
  refine kCall_i (W0 := []) (W1 := []) hP hD hS hA [] rfl rfl (va_runSN (As := [.int (mFd ((gp * ((T z) - (Se z))) + (mFd (gi * (mHold ((E z) + ((T z) - (Se z))) (-20000) (nI 20000))) (nI 100))) (nI 100)), .int (nI 0), .int (nI 100)]) (rest := []) ⟨hx, hb, hml, hown, hts⟩ (c_X2_holdWithin l D cI cZ cO cJ (mFd ((gp * ((T z) - (Se z))) + (mFd (gi * (mHold ((E z) + ((T z) - (Se z))) (-20000) (nI 20000))) (nI 100))) (nI 100)) (nI 0) (nI 100) H.size) ⟨va_cnB (rm := rmX2_holdWithin) 3 hts gX0_control_X2_holdWithin_n72 rfl rfl rfl hN (hts (.initialized RX2) (by decide +kernel)) (by decide +kernel) ⟨Nat.le_of_ble_eq_true rfl, Nat.le_of_ble_eq_true rfl⟩, hts (.static yX2_holdWithin) (by decide +kernel), trivial⟩ (kPreS hK hN hP hD [] rfl rfl) rfl rfl hl.1 rfl (lv_room (Nat.le_of_ble_eq_true rfl)) dX0_control_76 ⟨Nat.zero_le _, Nat.zero_le _⟩) (fun H locs hP hD hS => ?_)
  have hP : va_P D vwCl (wH cI cZ cO a b T (upd E z (mHold ((E z) + ((T z) - (Se z))) (-20000) (nI 20000))) Dm F S C la Lo Se Ef gp gi am li dl) H := hP
  have hD : va_D A (wH cI cZ cO a b T (upd E z (mHold ((E z) + ((T z) - (Se z))) (-20000) (nI 20000))) Dm F S C la Lo Se Ef gp gi am li dl) := hD
  subst hQ9
  subst hA9
  exact kRet_i hx hb hr hlocks hP hS dX0_control_79 rfl

abbrev rmX0_raiseForFailures : Room := { frames := 1, cells := 0, slots := 0, locals := 22 }
set_option maxHeartbeats 4000000 in
set_option maxRecDepth 100000 in
/-- raiseForFailures -/
theorem c_X0_raiseForFailures (l : Launch) (D : va_G) (cI cZ cO cJ : ClassId) (a b : Nat → Nat) (T E Dm F S : Nat → Int32) (C : Nat → Nat → Int32) (la : Nat) (Lo Se : Nat → Int32) (Ef : Nat → Nat → Int32) (gp gi am li : Int32) (dl : Nat) (z0 : Nat) (wv : Int32) (sz : Nat) (hz0 : z0 < 6) : kMi l yX0_raiseForFailures wsX0_raiseForFailures rmX0_raiseForFailures D (kT cI cZ cO cJ) [.ref (a 0), .ref (b 0), .int (nI z0), .int wv] (wH cI cZ cO a b T E Dm F S C la Lo Se Ef gp gi am li dl) (wH cI cZ cO a b T E Dm F S C la Lo Se Ef gp gi am li dl) sz (mRa F (fun f => Ef f z0) wv) := by
  refine kEnter (cc := cX0_raiseForFailures) (maxL := 8) (ret := some .int) (by decide +kernel) rfl (Nat.le_of_ble_eq_true rfl) ?_
  intro p e s m below meth c args hx hb hr hml hts hown hlocks hin hK hN A hA9 Q hQ9 hP hD hsz hS hA ls hl
  have hl : lv_has ls 8 [(0, .ref (a 0)), (1, .ref (b 0)), (2, .int (nI z0)), (3, .int wv)] := hl
  have hi_X0 : ∀ w ∈ u_ws RX0 TX0 7, w ∈ wsX0_raiseForFailures := by decide +kernel
  have hi_X1 : ∀ w ∈ u_ws RX1 TX1 8, w ∈ wsX0_raiseForFailures := by decide +kernel
  obtain ⟨H, hH9⟩ : ∃ H, H = s.heap := ⟨_, rfl⟩
  rw [← hH9] at hP ⊢
  have hS : va_S A s.heap H [] := by rw [hH9]; exact va_S.rf
  refine lv_iconst (v := nI 0) hx hb dX0_raiseForFailures_0 (by decide +kernel) ?_
  refine lv_istore (lv' := [(4, .int (nI 0)), (0, .ref (a 0)), (1, .ref (b 0)), (2, .int (nI z0)), (3, .int wv)]) hx hb dX0_raiseForFailures_1 hl (by decide) rfl (fun ls hl => ?_)
  refine lv_iconst (v := nI 0) hx hb dX0_raiseForFailures_3 (by decide +kernel) ?_
  refine lv_istore (lv' := [(5, .int (nI 0)), (4, .int (nI 0)), (0, .ref (a 0)), (1, .ref (b 0)), (2, .int (nI z0)), (3, .int wv)]) hx hb dX0_raiseForFailures_4 hl (by decide) rfl (fun ls hl => ?_)
  refine lv_iconst (v := nI 0) hx hb dX0_raiseForFailures_6 (by decide +kernel) ?_
  refine lv_istore (lv' := [(6, .int (nI 0)), (5, .int (nI 0)), (4, .int (nI 0)), (0, .ref (a 0)), (1, .ref (b 0)), (2, .int (nI z0)), (3, .int wv)]) hx hb dX0_raiseForFailures_7 hl (by decide) rfl (fun ls hl => ?_)
  have lp : ∀ (n z : Nat), z + n = 8 → ∀ (H : Heap) (locs : List Loc), va_P D vwCl (wH cI cZ cO a b T E Dm F S C la Lo Se Ef gp gi am li dl) H → va_D A (wH cI cZ cO a b T E Dm F S C la Lo Se Ef gp gi am li dl) → va_S A s.heap H locs → ∀ ls : Array Slot, lv_has ls 8 [(0, .ref (a 0)), (1, .ref (b 0)), (2, .int (nI z0)), (3, .int wv), (4, .int (mSum (fun f => Ef f z0) z)), (5, .int (mRun F (fun f => Ef f z0) z)), (6, .int (nI z))] → W p l e rmX0_raiseForFailures s m args below meth c H locs 0 0 Q (F0 m 9 ls []) := by
    intro n
    induction n with
    | zero =>
      intro z hz H locs hP hD hS ls hl
      have hz9 : z = 8 := by omega
      subst hz9
      refine lv_iload hx hb dX0_raiseForFailures_9 (lv_at hl 6 rfl) ?_
      refine lv_bipush (v := nI 8) hx hb dX0_raiseForFailures_11 (by decide +kernel) ?_
      refine lv_icmp_ge (tgt := 57) hx hb dX0_raiseForFailures_13 (by decide) (fun _ => ?_) (fun c9 => absurd (nI_le (Nat.le_refl 8) (by decide)) c9)
      refine lv_iload hx hb dX0_raiseForFailures_57 (lv_at hl 5 rfl) ?_
      refine lv_iload hx hb dX0_raiseForFailures_59 (lv_at hl 4 rfl) ?_
      refine lv_icmp_ne (tgt := 66) hx hb dX0_raiseForFailures_61 (by decide) (fun c1 => ?_) (fun c1 => ?_)
      · refine lv_iload hx hb dX0_raiseForFailures_66 (lv_at hl 5 rfl) ?_
        refine lv_if_ne (tgt := 74) hx hb dX0_raiseForFailures_68 (by decide) (fun c2 => ?_) (fun c2 => ?_)
        · refine lv_bipush (v := nI 100) hx hb dX0_raiseForFailures_74 (by decide +kernel) ?_
          refine lv_iload_n hx hb dX0_raiseForFailures_76 rfl (lv_at hl 3 rfl) ?_
          refine lv_iload hx hb dX0_raiseForFailures_77 (lv_at hl 4 rfl) ?_
          refine lv_imul hx hb dX0_raiseForFailures_79 ?_
          refine lv_iload hx hb dX0_raiseForFailures_80 (lv_at hl 5 rfl) ?_
          refine kCall_i (W0 := []) (W1 := []) hP hD hS hA [] rfl rfl (va_runS (As := [.int (wv * (mSum (fun f => Ef f z0) 8)), .int (mRun F (fun f => Ef f z0) 8)]) (rest := [.int (nI 100)]) ⟨hx, hb, hml, hown, hts⟩ (c_J9_floorDiv_7cf53 l D cI cZ cO cJ (wv * (mSum (fun f => Ef f z0) 8)) (mRun F (fun f => Ef f z0) 8) H.size c2) (va_cwS (rm := rmJ9_floorDiv_7cf53) 2 hts gX0_raiseForFailures_J9_floorDiv_7cf53 rfl rfl rfl (by decide +kernel) ⟨Nat.le_of_ble_eq_true rfl, Nat.le_of_ble_eq_true rfl⟩) (kPreS hK hN hP hD [] rfl rfl) rfl rfl hl.1 rfl (lv_room (Nat.le_of_ble_eq_true rfl)) dX0_raiseForFailures_82 ⟨Nat.zero_le _, Nat.zero_le _⟩) (fun H locs hP hD hS => ?_)
          have hP : va_P D vwCl (wH cI cZ cO a b T E Dm F S C la Lo Se Ef gp gi am li dl) H := hP
          have hD : va_D A (wH cI cZ cO a b T E Dm F S C la Lo Se Ef gp gi am li dl) := hD
          refine va_mmin hx hb (by rw [hml]; exact hl.1.symm) hown (hts (.methodLink RX0 88 Lib.Math.min.name) (by decide +kernel)) (hts (.static Lib.Math.min.name) (by decide +kernel)) (hts (.initialized "java/lang/Math") (by decide +kernel)) (hts (.code Lib.Math.min.name Lib.Math.min.code 2 (some .int)) (by decide +kernel)) (Nat.le_of_ble_eq_true rfl) (Nat.le_of_ble_eq_true rfl) (Nat.zero_le _) (Nat.zero_le _) (x := nI 100) (y := mFd (wv * (mSum (fun f => Ef f z0) 8)) (mRun F (fun f => Ef f z0) 8)) dX0_raiseForFailures_85 ?_
          refine k_as (y := mMin (nI 100) (mFd (wv * (mSum (fun f => Ef f z0) 8)) (mRun F (fun f => Ef f z0) 8))) rfl ?_
          subst hQ9
          subst hA9
          exact kRet_i hx hb hr hlocks hP hS dX0_raiseForFailures_88 (by unfold mRa; rw [if_neg c1, if_neg c2])
        · refine lv_bipush (v := nI 100) hx hb dX0_raiseForFailures_71 (by decide +kernel) ?_
          subst hQ9
          subst hA9
          exact kRet_i hx hb hr hlocks hP hS dX0_raiseForFailures_73 (by unfold mRa; rw [if_neg c1, if_pos c2])
      · refine lv_iload_n hx hb dX0_raiseForFailures_64 rfl (lv_at hl 3 rfl) ?_
        subst hQ9
        subst hA9
        exact kRet_i hx hb hr hlocks hP hS dX0_raiseForFailures_65 (by unfold mRa; rw [if_pos c1])
    | succ n ih =>
      intro z hz H locs hP hD hS ls hl
      have hzb : z < 8 := by omega
      refine lv_iload hx hb dX0_raiseForFailures_9 (lv_at hl 6 rfl) ?_
      refine lv_bipush (v := nI 8) hx hb dX0_raiseForFailures_11 (by decide +kernel) ?_
      refine lv_icmp_ge (tgt := 57) hx hb dX0_raiseForFailures_13 (by decide) (fun c9 => absurd c9 (nI_ge hzb (by decide))) (fun _ => ?_)
      refine lv_aload_n hx hb dX0_raiseForFailures_16 rfl (lv_at hl 1 rfl) ?_
      refine va_get (D := D) (ci := 1) (v := .ref (b 3)) (C := RX1) (T := TX1) (N := 8) hx hb hts hi_X1 hown hK hP 7 rfl rfl 2 (by decide) (hts (.fieldLink RX0 85 "Coldaisle$Settings" "effect" "[[I") (by decide +kernel)) (fun _ h9 => h9) rfl dX0_raiseForFailures_17 ?_
      refine lv_iload hx hb dX0_raiseForFailures_20 (lv_at hl 6 rfl) ?_
      refine k_aald hx hb hK hP 10 2 rfl rfl (i := z) (by omega) (by decide) dX0_raiseForFailures_22 ?_
      refine lv_iload_n hx hb dX0_raiseForFailures_23 rfl (lv_at hl 2 rfl) ?_
      refine k_iald hx hb hK hP _ 0 (wH_eff (j := z) (by omega)) rfl (i := z0) (by omega) (by decide) dX0_raiseForFailures_24 ?_
      refine lv_istore (lv' := [(7, .int ((Ef z) z0)), (0, .ref (a 0)), (1, .ref (b 0)), (2, .int (nI z0)), (3, .int wv), (4, .int (mSum (fun f => Ef f z0) z)), (5, .int (mRun F (fun f => Ef f z0) z)), (6, .int (nI z))]) hx hb dX0_raiseForFailures_25 hl (by decide) rfl (fun ls hl => ?_)
      refine lv_iload hx hb dX0_raiseForFailures_27 (lv_at hl 5 rfl) ?_
      refine lv_iload hx hb dX0_raiseForFailures_29 (lv_at hl 0 rfl) ?_
      refine lv_iadd hx hb dX0_raiseForFailures_31 ?_
      refine lv_istore (lv' := [(4, .int ((mSum (fun f => Ef f z0) z) + ((Ef z) z0))), (7, .int ((Ef z) z0)), (0, .ref (a 0)), (1, .ref (b 0)), (2, .int (nI z0)), (3, .int wv), (5, .int (mRun F (fun f => Ef f z0) z)), (6, .int (nI z))]) hx hb dX0_raiseForFailures_32 hl (by decide) rfl (fun ls hl => ?_)
      refine lv_aload_n hx hb dX0_raiseForFailures_34 rfl (lv_at hl 2 rfl) ?_
      refine va_get (D := D) (ci := 0) (v := .ref (a 4)) (C := RX0) (T := TX0) (N := 7) hx hb hts hi_X0 hown hK hP 0 rfl rfl 3 (by decide) (hts (.fieldLink RX0 21 "Coldaisle$Hall" "failed" "[Z") (by decide +kernel)) (fun _ h9 => h9) rfl dX0_raiseForFailures_35 ?_
      refine lv_iload hx hb dX0_raiseForFailures_38 (lv_at hl 7 rfl) ?_
      refine k_zald hx hb hK hP 4 1 rfl rfl (i := z) (by omega) (by decide) dX0_raiseForFailures_40 ?_
      refine lv_if_ne (tgt := 51) hx hb dX0_raiseForFailures_41 (by decide) (fun c1 => ?_) (fun c1 => ?_)
      · refine lv_iinc (v := nI (z + 1)) (lv' := [(6, .int (nI (z + 1))), (4, .int ((mSum (fun f => Ef f z0) z) + ((Ef z) z0))), (7, .int ((Ef z) z0)), (0, .ref (a 0)), (1, .ref (b 0)), (2, .int (nI z0)), (3, .int wv), (5, .int (mRun F (fun f => Ef f z0) z))]) hx hb dX0_raiseForFailures_51 hl (k := 7) rfl (k_inc _) (by decide) rfl (fun ls hl => ?_)
        refine lv_goto (tgt := 9) hx hb dX0_raiseForFailures_54 (by decide) ?_
        exact ih (z + 1) (by omega) H locs hP hD hS ls (by rw [mRun_f F (fun f => Ef f z0) z c1]; exact (lv_sub hl [3, 4, 5, 6, 1, 7, 0] rfl))
      · refine lv_iload hx hb dX0_raiseForFailures_44 (lv_at hl 6 rfl) ?_
        refine lv_iload hx hb dX0_raiseForFailures_46 (lv_at hl 1 rfl) ?_
        refine lv_iadd hx hb dX0_raiseForFailures_48 ?_
        refine lv_istore (lv' := [(5, .int ((mRun F (fun f => Ef f z0) z) + ((Ef z) z0))), (4, .int ((mSum (fun f => Ef f z0) z) + ((Ef z) z0))), (7, .int ((Ef z) z0)), (0, .ref (a 0)), (1, .ref (b 0)), (2, .int (nI z0)), (3, .int wv), (6, .int (nI z))]) hx hb dX0_raiseForFailures_49 hl (by decide) rfl (fun ls hl => ?_)
        refine lv_iinc (v := nI (z + 1)) (lv' := [(6, .int (nI (z + 1))), (5, .int ((mRun F (fun f => Ef f z0) z) + ((Ef z) z0))), (4, .int ((mSum (fun f => Ef f z0) z) + ((Ef z) z0))), (7, .int ((Ef z) z0)), (0, .ref (a 0)), (1, .ref (b 0)), (2, .int (nI z0)), (3, .int wv)]) hx hb dX0_raiseForFailures_51 hl (k := 7) rfl (k_inc _) (by decide) rfl (fun ls hl => ?_)
        refine lv_goto (tgt := 9) hx hb dX0_raiseForFailures_54 (by decide) ?_
        exact ih (z + 1) (by omega) H locs hP hD hS ls (by rw [mRun_t F (fun f => Ef f z0) z c1]; exact (lv_sub hl [4, 5, 6, 7, 2, 1, 0] rfl))
  exact lp 8 0 rfl H [] hP hD hS ls (lv_sub hl [3, 4, 5, 6, 2, 1, 0] rfl)

abbrev rmX0_greatestDemand : Room := { frames := 1, cells := 0, slots := 0, locals := 21 }
set_option maxHeartbeats 4000000 in
set_option maxRecDepth 100000 in
/-- greatestDemand -/
theorem c_X0_greatestDemand (l : Launch) (D : va_G) (cI cZ cO cJ : ClassId) (a b : Nat → Nat) (T E Dm F S : Nat → Int32) (C : Nat → Nat → Int32) (la : Nat) (Lo Se : Nat → Int32) (Ef : Nat → Nat → Int32) (gp gi am li : Int32) (dl : Nat) (f0 : Nat) (sz : Nat) (hf0 : f0 < 8) : kMi l yX0_greatestDemand wsX0_greatestDemand rmX0_greatestDemand D (kT cI cZ cO cJ) [.ref (a 0), .ref (b (4 + f0))] (wH cI cZ cO a b T E Dm F S C la Lo Se Ef gp gi am li dl) (wH cI cZ cO a b T E Dm F S C la Lo Se Ef gp gi am li dl) sz (mGd (Ef f0) Dm 6) := by
  refine kEnter (cc := cX0_greatestDemand) (maxL := 4) (ret := some .int) (by decide +kernel) rfl (Nat.le_of_ble_eq_true rfl) ?_
  intro p e s m below meth c args hx hb hr hml hts hown hlocks hin hK hN A hA9 Q hQ9 hP hD hsz hS hA ls hl
  have hl : lv_has ls 4 [(0, .ref (a 0)), (1, .ref (b (4 + f0)))] := hl
  have hi_X0 : ∀ w ∈ u_ws RX0 TX0 7, w ∈ wsX0_greatestDemand := by decide +kernel
  obtain ⟨H, hH9⟩ : ∃ H, H = s.heap := ⟨_, rfl⟩
  rw [← hH9] at hP ⊢
  have hS : va_S A s.heap H [] := by rw [hH9]; exact va_S.rf
  refine lv_iconst (v := nI 0) hx hb dX0_greatestDemand_0 (by decide +kernel) ?_
  refine lv_istore_n (lv' := [(2, .int (nI 0)), (0, .ref (a 0)), (1, .ref (b (4 + f0)))]) hx hb dX0_greatestDemand_1 rfl hl (by decide) rfl (fun ls hl => ?_)
  refine lv_iconst (v := nI 0) hx hb dX0_greatestDemand_2 (by decide +kernel) ?_
  refine lv_istore_n (lv' := [(3, .int (nI 0)), (2, .int (nI 0)), (0, .ref (a 0)), (1, .ref (b (4 + f0)))]) hx hb dX0_greatestDemand_3 rfl hl (by decide) rfl (fun ls hl => ?_)
  have lp : ∀ (n z : Nat), z + n = 6 → ∀ (H : Heap) (locs : List Loc), va_P D vwCl (wH cI cZ cO a b T E Dm F S C la Lo Se Ef gp gi am li dl) H → va_D A (wH cI cZ cO a b T E Dm F S C la Lo Se Ef gp gi am li dl) → va_S A s.heap H locs → ∀ ls : Array Slot, lv_has ls 4 [(0, .ref (a 0)), (1, .ref (b (4 + f0))), (2, .int (mGd (Ef f0) Dm z)), (3, .int (nI z))] → W p l e rmX0_greatestDemand s m args below meth c H locs 0 0 Q (F0 m 4 ls []) := by
    intro n
    induction n with
    | zero =>
      intro z hz H locs hP hD hS ls hl
      have hz9 : z = 6 := by omega
      subst hz9
      refine lv_iload_n hx hb dX0_greatestDemand_4 rfl (lv_at hl 3 rfl) ?_
      refine lv_bipush (v := nI 6) hx hb dX0_greatestDemand_5 (by decide +kernel) ?_
      refine lv_icmp_ge (tgt := 33) hx hb dX0_greatestDemand_7 (by decide) (fun _ => ?_) (fun c9 => absurd (nI_le (Nat.le_refl 6) (by decide)) c9)
      refine lv_iload_n hx hb dX0_greatestDemand_33 rfl (lv_at hl 2 rfl) ?_
      subst hQ9
      subst hA9
      exact kRet_i hx hb hr hlocks hP hS dX0_greatestDemand_34 rfl
    | succ n ih =>
      intro z hz H locs hP hD hS ls hl
      have hzb : z < 6 := by omega
      refine lv_iload_n hx hb dX0_greatestDemand_4 rfl (lv_at hl 3 rfl) ?_
      refine lv_bipush (v := nI 6) hx hb dX0_greatestDemand_5 (by decide +kernel) ?_
      refine lv_icmp_ge (tgt := 33) hx hb dX0_greatestDemand_7 (by decide) (fun c9 => absurd c9 (nI_ge hzb (by decide))) (fun _ => ?_)
      refine lv_aload_n hx hb dX0_greatestDemand_10 rfl (lv_at hl 1 rfl) ?_
      refine lv_iload_n hx hb dX0_greatestDemand_11 rfl (lv_at hl 3 rfl) ?_
      refine k_iald hx hb hK hP _ 0 (wH_eff (j := f0) (by omega)) rfl (i := z) (by omega) (by decide) dX0_greatestDemand_12 ?_
      refine lv_if_le (tgt := 27) hx hb dX0_greatestDemand_13 (by decide) (fun c1 => ?_) (fun c1 => ?_)
      · refine lv_iinc (v := nI (z + 1)) (lv' := [(3, .int (nI (z + 1))), (0, .ref (a 0)), (1, .ref (b (4 + f0))), (2, .int (mGd (Ef f0) Dm z))]) hx hb dX0_greatestDemand_27 hl (k := 3) rfl (k_inc _) (by decide) rfl (fun ls hl => ?_)
        refine lv_goto (tgt := 4) hx hb dX0_greatestDemand_30 (by decide) ?_
        exact ih (z + 1) (by omega) H locs hP hD hS ls (by rw [mGd_t (Ef f0) Dm z c1]; exact (lv_sub hl [1, 2, 3, 0] rfl))
      · refine lv_iload_n hx hb dX0_greatestDemand_16 rfl (lv_at hl 2 rfl) ?_
        refine lv_aload_n hx hb dX0_greatestDemand_17 rfl (lv_at hl 0 rfl) ?_
        refine va_get (D := D) (ci := 0) (v := .ref (a 3)) (C := RX0) (T := TX0) (N := 7) hx hb hts hi_X0 hown hK hP 0 rfl rfl 2 (by decide) (hts (.fieldLink RX0 18 "Coldaisle$Hall" "demand" "[I") (by decide +kernel)) (fun _ h9 => h9) rfl dX0_greatestDemand_18 ?_
        refine lv_iload_n hx hb dX0_greatestDemand_21 rfl (lv_at hl 3 rfl) ?_
        refine k_iald hx hb hK hP 3 0 rfl rfl (i := z) (by omega) (by decide) dX0_greatestDemand_22 ?_
        refine va_mmax hx hb (by rw [hml]; exact hl.1.symm) hown (hts (.methodLink RX0 99 Lib.Math.max.name) (by decide +kernel)) (hts (.static Lib.Math.max.name) (by decide +kernel)) (hts (.initialized "java/lang/Math") (by decide +kernel)) (hts (.code Lib.Math.max.name Lib.Math.max.code 2 (some .int)) (by decide +kernel)) (Nat.le_of_ble_eq_true rfl) (Nat.le_of_ble_eq_true rfl) (Nat.zero_le _) (Nat.zero_le _) (x := mGd (Ef f0) Dm z) (y := Dm z) dX0_greatestDemand_23 ?_
        refine k_as (y := mMax (mGd (Ef f0) Dm z) (Dm z)) rfl ?_
        refine lv_istore_n (lv' := [(2, .int (mMax (mGd (Ef f0) Dm z) (Dm z))), (0, .ref (a 0)), (1, .ref (b (4 + f0))), (3, .int (nI z))]) hx hb dX0_greatestDemand_26 rfl hl (by decide) rfl (fun ls hl => ?_)
        refine lv_iinc (v := nI (z + 1)) (lv' := [(3, .int (nI (z + 1))), (2, .int (mMax (mGd (Ef f0) Dm z) (Dm z))), (0, .ref (a 0)), (1, .ref (b (4 + f0)))]) hx hb dX0_greatestDemand_27 hl (k := 3) rfl (k_inc _) (by decide) rfl (fun ls hl => ?_)
        refine lv_goto (tgt := 4) hx hb dX0_greatestDemand_30 (by decide) ?_
        exact ih (z + 1) (by omega) H locs hP hD hS ls (by rw [mGd_f (Ef f0) Dm z c1]; exact (lv_sub hl [2, 3, 1, 0] rfl))
  exact lp 6 0 rfl H [] hP hD hS ls (lv_sub hl [2, 3, 1, 0] rfl)

abbrev rmX0_commandFans : Room := { frames := 2, cells := 0, slots := 0, locals := 44 }
set_option maxHeartbeats 4000000 in
set_option maxRecDepth 100000 in
/-- commandFans -/
theorem c_X0_commandFans (l : Launch) (D : va_G) (cI cZ cO cJ : ClassId) (a b : Nat → Nat) (T E Dm F S : Nat → Int32) (C : Nat → Nat → Int32) (la : Nat) (Lo Se : Nat → Int32) (Ef : Nat → Nat → Int32) (gp gi am li : Int32) (dl : Nat) (sz : Nat) (h1 : la < 9) : kMv l yX0_commandFans wsX0_commandFans rmX0_commandFans D (kT cI cZ cO cJ) [.ref (a 0), .ref (b 0)] (wH cI cZ cO a b T E Dm F S C la Lo Se Ef gp gi am li dl) (wH cI cZ cO a b T E Dm F S (va_up C ((la + 1) % 9) (mFl 8 (mG1 Ef Dm) (C ((la + 1) % 9)))) ((la + 1) % 9) Lo Se Ef gp gi am li dl) sz := by
  refine kEnter (cc := cX0_commandFans) (maxL := 4) (ret := none) (by decide +kernel) rfl (Nat.le_of_ble_eq_true rfl) ?_
  intro p e s m below meth c args hx hb hr hml hts hown hlocks hin hK hN A hA9 Q hQ9 hP hD hsz hS hA ls hl
  have hl : lv_has ls 4 [(0, .ref (a 0)), (1, .ref (b 0))] := hl
  have hi_X0 : ∀ w ∈ u_ws RX0 TX0 7, w ∈ wsX0_commandFans := by decide +kernel
  have hi_X1 : ∀ w ∈ u_ws RX1 TX1 8, w ∈ wsX0_commandFans := by decide +kernel
  obtain ⟨H, hH9⟩ : ∃ H, H = s.heap := ⟨_, rfl⟩
  rw [← hH9] at hP ⊢
  have hS : va_S A s.heap H [] := by rw [hH9]; exact va_S.rf
  refine lv_aload_n hx hb dX0_commandFans_0 rfl (lv_at hl 0 rfl) ?_
  refine lv_aload_n hx hb dX0_commandFans_1 rfl (lv_at hl 0 rfl) ?_
  refine va_get (D := D) (ci := 0) (v := .int (nI la)) (C := RX0) (T := TX0) (N := 7) hx hb hts hi_X0 hown hK hP 0 rfl rfl 6 (by decide) (hts (.fieldLink RX0 33 "Coldaisle$Hall" "lastMinute" "I") (by decide +kernel)) (fun _ h9 => h9) rfl dX0_commandFans_2 ?_
  refine lv_iconst (v := nI 1) hx hb dX0_commandFans_5 (by decide +kernel) ?_
  refine lv_iadd hx hb dX0_commandFans_6 ?_
  refine k_as (nI_add _ _) ?_
  refine lv_bipush (v := nI 9) hx hb dX0_commandFans_7 (by decide +kernel) ?_
  refine kCall_i (W0 := []) (W1 := []) hP hD hS hA [] rfl rfl (va_runS (As := [.int (nI (la + 1)), .int (nI 9)]) (rest := [.ref (a 0)]) ⟨hx, hb, hml, hown, hts⟩ (c_J9_floorMod_7cf53 l D cI cZ cO cJ (nI (la + 1)) (nI 9) H.size (by decide +kernel)) (va_cwS (rm := rmJ9_floorMod_7cf53) 2 hts gX0_commandFans_J9_floorMod_7cf53 rfl rfl rfl (by decide +kernel) ⟨Nat.le_of_ble_eq_true rfl, Nat.le_of_ble_eq_true rfl⟩) (kPreS hK hN hP hD [] rfl rfl) rfl rfl hl.1 rfl (lv_room (Nat.le_of_ble_eq_true rfl)) dX0_commandFans_9 ⟨Nat.zero_le _, Nat.zero_le _⟩) (fun H locs hP hD hS => ?_)
  have hP : va_P D vwCl (wH cI cZ cO a b T E Dm F S C la Lo Se Ef gp gi am li dl) H := hP
  have hD : va_D A (wH cI cZ cO a b T E Dm F S C la Lo Se Ef gp gi am li dl) := hD
  refine k_as (mNext (by omega)) ?_
  refine va_put (D := D) (ci := 0) (v := .int (nI ((la + 1) % 9))) (ty := tyX0 6) (C := RX0) (T := TX0) (N := 7) hx hb hts hi_X0 tyX0 tyX0_ok nmX0 hown hK hP hD hS 0 rfl rfl 6 (by decide) (hts (.fieldLink RX0 33 "Coldaisle$Hall" "lastMinute" "I") (by decide +kernel)) (fun _ h9 => h9) rfl (by decide +kernel) rfl rfl (Nat.le_of_ble_eq_true rfl) dX0_commandFans_12 (fun H locs hP hD hS => ?_)
  have hP : va_P D vwCl (wH cI cZ cO a b T E Dm F S C ((la + 1) % 9) Lo Se Ef gp gi am li dl) H := hP
  have hD : va_D A (wH cI cZ cO a b T E Dm F S C ((la + 1) % 9) Lo Se Ef gp gi am li dl) := hD
  refine lv_aload_n hx hb dX0_commandFans_15 rfl (lv_at hl 0 rfl) ?_
  refine lv_iconst (v := nI 0) hx hb dX0_commandFans_16 (by decide +kernel) ?_
  refine kCallW_r (W1 := wH cI cZ cO a b T E Dm F S C ((la + 1) % 9) Lo Se Ef gp gi am li dl) hD hS hA rfl (va_runV (As := [.int (nI 0)]) (rest := []) ⟨hx, hb, hml, hown, hts⟩ (c_X0_commandsAgo l D cI cZ cO cJ a b T E Dm F S C ((la + 1) % 9) Lo Se Ef gp gi am li dl 0 H.size (by omega) (by omega)) (cwV (rm := rmX0_commandsAgo) 1 hts gX0_commandFans_X0_commandsAgo rfl rfl rfl (by decide +kernel) ⟨Nat.le_of_ble_eq_true rfl, Nat.le_of_ble_eq_true rfl⟩) (kPreVW hK hN hP hD (va_recv hK hP (ci := 0) (q0 := 0) rfl rfl)) rfl rfl hl.1 rfl (lv_room (Nat.le_of_ble_eq_true rfl)) dX0_commandFans_17 ⟨Nat.zero_le _, Nat.zero_le _⟩) (fun H locs hP hD hS => ?_)
  rw [show ((la + 1) % 9 + 9 - 0) % 9 = ((la + 1) % 9) from by omega]
  refine lv_astore_n (lv' := [(2, .ref (a (7 + ((la + 1) % 9)))), (0, .ref (a 0)), (1, .ref (b 0))]) hx hb dX0_commandFans_20 rfl hl (by decide) rfl (fun ls hl => ?_)
  refine lv_iconst (v := nI 0) hx hb dX0_commandFans_21 (by decide +kernel) ?_
  refine lv_istore_n (lv' := [(3, .int (nI 0)), (2, .ref (a (7 + ((la + 1) % 9)))), (0, .ref (a 0)), (1, .ref (b 0))]) hx hb dX0_commandFans_22 rfl hl (by decide) rfl (fun ls hl => ?_)
  have lp : ∀ (n z : Nat), z + n = 8 → ∀ (H : Heap) (locs : List Loc), va_P D vwCl (wH cI cZ cO a b T E Dm F S (va_up C ((la + 1) % 9) (mFl z (mG1 Ef Dm) (C ((la + 1) % 9)))) ((la + 1) % 9) Lo Se Ef gp gi am li dl) H → va_D A (wH cI cZ cO a b T E Dm F S (va_up C ((la + 1) % 9) (mFl z (mG1 Ef Dm) (C ((la + 1) % 9)))) ((la + 1) % 9) Lo Se Ef gp gi am li dl) → va_S A s.heap H locs → ∀ ls : Array Slot, lv_has ls 4 [(0, .ref (a 0)), (1, .ref (b 0)), (2, .ref (a (7 + ((la + 1) % 9)))), (3, .int (nI z))] → W p l e rmX0_commandFans s m args below meth c H locs 0 0 Q (F0 m 23 ls []) := by
    intro n
    induction n with
    | zero =>
      intro z hz H locs hP hD hS ls hl
      have hz9 : z = 8 := by omega
      subst hz9
      refine lv_iload_n hx hb dX0_commandFans_23 rfl (lv_at hl 3 rfl) ?_
      refine lv_bipush (v := nI 8) hx hb dX0_commandFans_24 (by decide +kernel) ?_
      refine lv_icmp_ge (tgt := 48) hx hb dX0_commandFans_26 (by decide) (fun _ => ?_) (fun c9 => absurd (nI_le (Nat.le_refl 8) (by decide)) c9)
      subst hQ9
      subst hA9
      exact kRet_v hx hb hr hlocks hP hS dX0_commandFans_48
    | succ n ih =>
      intro z hz H locs hP hD hS ls hl
      have hzb : z < 8 := by omega
      refine lv_iload_n hx hb dX0_commandFans_23 rfl (lv_at hl 3 rfl) ?_
      refine lv_bipush (v := nI 8) hx hb dX0_commandFans_24 (by decide +kernel) ?_
      refine lv_icmp_ge (tgt := 48) hx hb dX0_commandFans_26 (by decide) (fun c9 => absurd c9 (nI_ge hzb (by decide))) (fun _ => ?_)
      refine lv_aload_n hx hb dX0_commandFans_29 rfl (lv_at hl 2 rfl) ?_
      refine lv_iload_n hx hb dX0_commandFans_30 rfl (lv_at hl 3 rfl) ?_
      refine lv_aload_n hx hb dX0_commandFans_31 rfl (lv_at hl 0 rfl) ?_
      refine lv_aload_n hx hb dX0_commandFans_32 rfl (lv_at hl 1 rfl) ?_
      refine va_get (D := D) (ci := 1) (v := .ref (b 3)) (C := RX1) (T := TX1) (N := 8) hx hb hts hi_X1 hown hK hP 7 rfl rfl 2 (by decide) (hts (.fieldLink RX0 85 "Coldaisle$Settings" "effect" "[[I") (by decide +kernel)) (fun _ h9 => h9) rfl dX0_commandFans_33 ?_
      refine lv_iload_n hx hb dX0_commandFans_36 rfl (lv_at hl 3 rfl) ?_
      refine k_aald hx hb hK hP 10 2 rfl rfl (i := z) (by omega) (by decide) dX0_commandFans_37 ?_
      refine kCallW_i (W1 := wH cI cZ cO a b T E Dm F S (va_up C ((la + 1) % 9) (mFl z (mG1 Ef Dm) (C ((la + 1) % 9)))) ((la + 1) % 9) Lo Se Ef gp gi am li dl) hD hS hA rfl (va_runV (As := [.ref (b (4 + z))]) (rest := [.int (nI z), .ref (a (7 + ((la + 1) % 9)))]) ⟨hx, hb, hml, hown, hts⟩ (c_X0_greatestDemand l D cI cZ cO cJ a b T E Dm F S (va_up C ((la + 1) % 9) (mFl z (mG1 Ef Dm) (C ((la + 1) % 9)))) ((la + 1) % 9) Lo Se Ef gp gi am li dl z H.size (by omega)) (cwV (rm := rmX0_greatestDemand) 1 hts gX0_commandFans_X0_greatestDemand rfl rfl rfl (by decide +kernel) ⟨Nat.le_of_ble_eq_true rfl, Nat.le_of_ble_eq_true rfl⟩) (kPreVW hK hN hP hD (va_recv hK hP (ci := 0) (q0 := 0) rfl rfl)) rfl rfl hl.1 rfl (lv_room (Nat.le_of_ble_eq_true rfl)) dX0_commandFans_38 ⟨Nat.zero_le _, Nat.zero_le _⟩) (fun H locs hP hD hS => ?_)
      refine k_iast hx hb hK hP hD hS _ 0 (wH_ring (j := ((la + 1) % 9)) (by omega)) rfl (i := z) (x := mGd (Ef z) Dm 6) (by omega) (by decide) dX0_commandFans_41 (fun H locs hP hD hS => ?_)
      have hP : va_P D vwCl (wH cI cZ cO a b T E Dm F S (va_up C ((la + 1) % 9) (mFl (z + 1) (mG1 Ef Dm) (C ((la + 1) % 9)))) ((la + 1) % 9) Lo Se Ef gp gi am li dl) H := (by rw [← mFl_up z (mG1 Ef Dm) (C ((la + 1) % 9))]; have h := hP; rw [wH_ring_set (j := (la + 1) % 9) (by omega), va_up_self, bx_uu] at h; exact h)
      have hD : va_D A (wH cI cZ cO a b T E Dm F S (va_up C ((la + 1) % 9) (mFl (z + 1) (mG1 Ef Dm) (C ((la + 1) % 9)))) ((la + 1) % 9) Lo Se Ef gp gi am li dl) := (by rw [← mFl_up z (mG1 Ef Dm) (C ((la + 1) % 9))]; have h := hD; rw [wH_ring_set (j := (la + 1) % 9) (by omega), va_up_self, bx_uu] at h; exact h)
      refine lv_iinc (v := nI (z + 1)) (lv' := [(3, .int (nI (z + 1))), (0, .ref (a 0)), (1, .ref (b 0)), (2, .ref (a (7 + ((la + 1) % 9))))]) hx hb dX0_commandFans_42 hl (k := 3) rfl (k_inc _) (by decide) rfl (fun ls hl => ?_)
      refine lv_goto (tgt := 23) hx hb dX0_commandFans_45 (by decide) ?_
      exact ih (z + 1) (by omega) H locs hP hD hS ls (lv_sub hl [1, 2, 3, 0] rfl)
  exact lp 8 0 rfl H locs (by simp only [mFl_0, va_up_id]; exact hP) (by simp only [mFl_0, va_up_id]; exact hD) hS ls (lv_sub hl [2, 3, 1, 0] rfl)

abbrev rmX0_turnFans : Room := { frames := 2, cells := 0, slots := 0, locals := 43 }
set_option maxHeartbeats 4000000 in
set_option maxRecDepth 100000 in
/-- turnFans -/
theorem c_X0_turnFans (l : Launch) (D : va_G) (cI cZ cO cJ : ClassId) (a b : Nat → Nat) (T E Dm F S : Nat → Int32) (C : Nat → Nat → Int32) (la : Nat) (Lo Se : Nat → Int32) (Ef : Nat → Nat → Int32) (gp gi am li : Int32) (dl : Nat) (sz : Nat) (h1 : la < 9) (h2 : dl < 9) : kMv l yX0_turnFans wsX0_turnFans rmX0_turnFans D (kT cI cZ cO cJ) [.ref (a 0), .ref (b 0)] (wH cI cZ cO a b T E Dm F S C la Lo Se Ef gp gi am li dl) (wH cI cZ cO a b T E Dm F (mFl 8 (mS1 F (C ((la + 9 - dl) % 9))) S) C la Lo Se Ef gp gi am li dl) sz := by
  refine kEnter (cc := cX0_turnFans) (maxL := 4) (ret := none) (by decide +kernel) rfl (Nat.le_of_ble_eq_true rfl) ?_
  intro p e s m below meth c args hx hb hr hml hts hown hlocks hin hK hN A hA9 Q hQ9 hP hD hsz hS hA ls hl
  have hl : lv_has ls 4 [(0, .ref (a 0)), (1, .ref (b 0))] := hl
  have hi_X0 : ∀ w ∈ u_ws RX0 TX0 7, w ∈ wsX0_turnFans := by decide +kernel
  have hi_X1 : ∀ w ∈ u_ws RX1 TX1 8, w ∈ wsX0_turnFans := by decide +kernel
  obtain ⟨H, hH9⟩ : ∃ H, H = s.heap := ⟨_, rfl⟩
  rw [← hH9] at hP ⊢
  have hS : va_S A s.heap H [] := by rw [hH9]; exact va_S.rf
  refine lv_aload_n hx hb dX0_turnFans_0 rfl (lv_at hl 0 rfl) ?_
  refine lv_aload_n hx hb dX0_turnFans_1 rfl (lv_at hl 1 rfl) ?_
  refine va_get (D := D) (ci := 1) (v := .int (nI dl)) (C := RX1) (T := TX1) (N := 8) hx hb hts hi_X1 hown hK hP 7 rfl rfl 7 (by decide) (hts (.fieldLink RX0 102 "Coldaisle$Settings" "delay" "I") (by decide +kernel)) (fun _ h9 => h9) rfl dX0_turnFans_2 ?_
  refine kCallW_r (W1 := wH cI cZ cO a b T E Dm F S C la Lo Se Ef gp gi am li dl) hD hS hA rfl (va_runV (As := [.int (nI dl)]) (rest := []) ⟨hx, hb, hml, hown, hts⟩ (c_X0_commandsAgo l D cI cZ cO cJ a b T E Dm F S C la Lo Se Ef gp gi am li dl dl H.size (by omega) (by omega)) (cwV (rm := rmX0_commandsAgo) 1 hts gX0_turnFans_X0_commandsAgo rfl rfl rfl (by decide +kernel) ⟨Nat.le_of_ble_eq_true rfl, Nat.le_of_ble_eq_true rfl⟩) (kPreVW hK hN hP hD (va_recv hK hP (ci := 0) (q0 := 0) rfl rfl)) rfl rfl hl.1 rfl (lv_room (Nat.le_of_ble_eq_true rfl)) dX0_turnFans_5 ⟨Nat.zero_le _, Nat.zero_le _⟩) (fun H locs hP hD hS => ?_)
  refine lv_astore_n (lv' := [(2, .ref (a (7 + (la + 9 - dl) % 9))), (0, .ref (a 0)), (1, .ref (b 0))]) hx hb dX0_turnFans_8 rfl hl (by decide) rfl (fun ls hl => ?_)
  refine lv_iconst (v := nI 0) hx hb dX0_turnFans_9 (by decide +kernel) ?_
  refine lv_istore_n (lv' := [(3, .int (nI 0)), (2, .ref (a (7 + (la + 9 - dl) % 9))), (0, .ref (a 0)), (1, .ref (b 0))]) hx hb dX0_turnFans_10 rfl hl (by decide) rfl (fun ls hl => ?_)
  have lp : ∀ (n z : Nat), z + n = 8 → ∀ (H : Heap) (locs : List Loc), va_P D vwCl (wH cI cZ cO a b T E Dm F (mFl z (mS1 F (C ((la + 9 - dl) % 9))) S) C la Lo Se Ef gp gi am li dl) H → va_D A (wH cI cZ cO a b T E Dm F (mFl z (mS1 F (C ((la + 9 - dl) % 9))) S) C la Lo Se Ef gp gi am li dl) → va_S A s.heap H locs → ∀ ls : Array Slot, lv_has ls 4 [(0, .ref (a 0)), (1, .ref (b 0)), (2, .ref (a (7 + (la + 9 - dl) % 9))), (3, .int (nI z))] → W p l e rmX0_turnFans s m args below meth c H locs 0 0 Q (F0 m 11 ls []) := by
    intro n
    induction n with
    | zero =>
      intro z hz H locs hP hD hS ls hl
      have hz9 : z = 8 := by omega
      subst hz9
      refine lv_iload_n hx hb dX0_turnFans_11 rfl (lv_at hl 3 rfl) ?_
      refine lv_bipush (v := nI 8) hx hb dX0_turnFans_12 (by decide +kernel) ?_
      refine lv_icmp_ge (tgt := 45) hx hb dX0_turnFans_14 (by decide) (fun _ => ?_) (fun c9 => absurd (nI_le (Nat.le_refl 8) (by decide)) c9)
      subst hQ9
      subst hA9
      exact kRet_v hx hb hr hlocks hP hS dX0_turnFans_45
    | succ n ih =>
      intro z hz H locs hP hD hS ls hl
      have hzb : z < 8 := by omega
      refine lv_iload_n hx hb dX0_turnFans_11 rfl (lv_at hl 3 rfl) ?_
      refine lv_bipush (v := nI 8) hx hb dX0_turnFans_12 (by decide +kernel) ?_
      refine lv_icmp_ge (tgt := 45) hx hb dX0_turnFans_14 (by decide) (fun c9 => absurd c9 (nI_ge hzb (by decide))) (fun _ => ?_)
      refine lv_aload_n hx hb dX0_turnFans_17 rfl (lv_at hl 0 rfl) ?_
      refine va_get (D := D) (ci := 0) (v := .ref (a 5)) (C := RX0) (T := TX0) (N := 7) hx hb hts hi_X0 hown hK hP 0 rfl rfl 4 (by decide) (hts (.fieldLink RX0 25 "Coldaisle$Hall" "speed" "[I") (by decide +kernel)) (fun _ h9 => h9) rfl dX0_turnFans_18 ?_
      refine lv_iload_n hx hb dX0_turnFans_21 rfl (lv_at hl 3 rfl) ?_
      refine lv_aload_n hx hb dX0_turnFans_22 rfl (lv_at hl 0 rfl) ?_
      refine va_get (D := D) (ci := 0) (v := .ref (a 4)) (C := RX0) (T := TX0) (N := 7) hx hb hts hi_X0 hown hK hP 0 rfl rfl 3 (by decide) (hts (.fieldLink RX0 21 "Coldaisle$Hall" "failed" "[Z") (by decide +kernel)) (fun _ h9 => h9) rfl dX0_turnFans_23 ?_
      refine lv_iload_n hx hb dX0_turnFans_26 rfl (lv_at hl 3 rfl) ?_
      refine k_zald hx hb hK hP 4 1 rfl rfl (i := z) (by omega) (by decide) dX0_turnFans_27 ?_
      refine lv_if_eq (tgt := 35) hx hb dX0_turnFans_28 (by decide) (fun c1 => ?_) (fun c1 => ?_)
      · refine lv_aload_n hx hb dX0_turnFans_35 rfl (lv_at hl 2 rfl) ?_
        refine lv_iload_n hx hb dX0_turnFans_36 rfl (lv_at hl 3 rfl) ?_
        refine k_iald hx hb hK hP _ 0 (wH_ring (j := (la + 9 - dl) % 9) (by omega)) rfl (i := z) (by omega) (by decide) dX0_turnFans_37 ?_
        refine k_iast hx hb hK hP hD hS 5 0 rfl rfl (i := z) (x := (C ((la + 9 - dl) % 9)) z) (by omega) (by decide) dX0_turnFans_38 (fun H locs hP hD hS => ?_)
        have hP : va_P D vwCl (wH cI cZ cO a b T E Dm F (upd (mFl z (mS1 F (C ((la + 9 - dl) % 9))) S) z ((C ((la + 9 - dl) % 9)) z)) C la Lo Se Ef gp gi am li dl) H := hP
        have hD : va_D A (wH cI cZ cO a b T E Dm F (upd (mFl z (mS1 F (C ((la + 9 - dl) % 9))) S) z ((C ((la + 9 - dl) % 9)) z)) C la Lo Se Ef gp gi am li dl) := hD
        have hP : va_P D vwCl (wH cI cZ cO a b T E Dm F (mFl (z + 1) (mS1 F (C ((la + 9 - dl) % 9))) S) C la Lo Se Ef gp gi am li dl) H := by rw [← mFl_up z (mS1 F (C ((la + 9 - dl) % 9))) S, show mS1 F (C ((la + 9 - dl) % 9)) z = C ((la + 9 - dl) % 9) z from if_pos c1]; exact hP
        have hD : va_D A (wH cI cZ cO a b T E Dm F (mFl (z + 1) (mS1 F (C ((la + 9 - dl) % 9))) S) C la Lo Se Ef gp gi am li dl) := by rw [← mFl_up z (mS1 F (C ((la + 9 - dl) % 9))) S, show mS1 F (C ((la + 9 - dl) % 9)) z = C ((la + 9 - dl) % 9) z from if_pos c1]; exact hD
        refine lv_iinc (v := nI (z + 1)) (lv' := [(3, .int (nI (z + 1))), (0, .ref (a 0)), (1, .ref (b 0)), (2, .ref (a (7 + (la + 9 - dl) % 9)))]) hx hb dX0_turnFans_39 hl (k := 3) rfl (k_inc _) (by decide) rfl (fun ls hl => ?_)
        refine lv_goto (tgt := 11) hx hb dX0_turnFans_42 (by decide) ?_
        exact ih (z + 1) (by omega) H locs hP hD hS ls (lv_sub hl [1, 2, 3, 0] rfl)
      · refine lv_iconst (v := nI 0) hx hb dX0_turnFans_31 (by decide +kernel) ?_
        refine lv_goto (tgt := 38) hx hb dX0_turnFans_32 (by decide) ?_
        refine k_iast hx hb hK hP hD hS 5 0 rfl rfl (i := z) (x := nI 0) (by omega) (by decide) dX0_turnFans_38 (fun H locs hP hD hS => ?_)
        have hP : va_P D vwCl (wH cI cZ cO a b T E Dm F (upd (mFl z (mS1 F (C ((la + 9 - dl) % 9))) S) z (nI 0)) C la Lo Se Ef gp gi am li dl) H := hP
        have hD : va_D A (wH cI cZ cO a b T E Dm F (upd (mFl z (mS1 F (C ((la + 9 - dl) % 9))) S) z (nI 0)) C la Lo Se Ef gp gi am li dl) := hD
        have hP : va_P D vwCl (wH cI cZ cO a b T E Dm F (mFl (z + 1) (mS1 F (C ((la + 9 - dl) % 9))) S) C la Lo Se Ef gp gi am li dl) H := by rw [← mFl_up z (mS1 F (C ((la + 9 - dl) % 9))) S, show mS1 F (C ((la + 9 - dl) % 9)) z = nI 0 from if_neg c1]; exact hP
        have hD : va_D A (wH cI cZ cO a b T E Dm F (mFl (z + 1) (mS1 F (C ((la + 9 - dl) % 9))) S) C la Lo Se Ef gp gi am li dl) := by rw [← mFl_up z (mS1 F (C ((la + 9 - dl) % 9))) S, show mS1 F (C ((la + 9 - dl) % 9)) z = nI 0 from if_neg c1]; exact hD
        refine lv_iinc (v := nI (z + 1)) (lv' := [(3, .int (nI (z + 1))), (0, .ref (a 0)), (1, .ref (b 0)), (2, .ref (a (7 + (la + 9 - dl) % 9)))]) hx hb dX0_turnFans_39 hl (k := 3) rfl (k_inc _) (by decide) rfl (fun ls hl => ?_)
        refine lv_goto (tgt := 11) hx hb dX0_turnFans_42 (by decide) ?_
        exact ih (z + 1) (by omega) H locs hP hD hS ls (lv_sub hl [1, 2, 3, 0] rfl)
  exact lp 8 0 rfl H locs (by simp only [mFl_0]; exact hP) (by simp only [mFl_0]; exact hD) hS ls (lv_sub hl [2, 3, 1, 0] rfl)

abbrev rmX0_nextTemperature : Room := { frames := 1, cells := 0, slots := 0, locals := 22 }
set_option maxHeartbeats 4000000 in
set_option maxRecDepth 100000 in
/-- nextTemperature -/
theorem c_X0_nextTemperature (l : Launch) (D : va_G) (cI cZ cO cJ : ClassId) (a b : Nat → Nat) (T E Dm F S : Nat → Int32) (C : Nat → Nat → Int32) (la : Nat) (Lo Se : Nat → Int32) (Ef : Nat → Nat → Int32) (gp gi am li : Int32) (dl : Nat) (z0 : Nat) (sz : Nat) (hz0 : z0 < 6) : kMi l yX0_nextTemperature wsX0_nextTemperature rmX0_nextTemperature D (kT cI cZ cO cJ) [.ref (a 0), .ref (b 0), .int (nI z0)] (wH cI cZ cO a b T E Dm F S C la Lo Se Ef gp gi am li dl) (wH cI cZ cO a b T E Dm F S C la Lo Se Ef gp gi am li dl) sz (mTn (T z0) (Lo z0) am (mCo Ef S z0 8)) := by
  refine kEnter (cc := cX0_nextTemperature) (maxL := 6) (ret := some .int) (by decide +kernel) rfl (Nat.le_of_ble_eq_true rfl) ?_
  intro p e s m below meth c args hx hb hr hml hts hown hlocks hin hK hN A hA9 Q hQ9 hP hD hsz hS hA ls hl
  have hl : lv_has ls 6 [(0, .ref (a 0)), (1, .ref (b 0)), (2, .int (nI z0))] := hl
  have hi_X0 : ∀ w ∈ u_ws RX0 TX0 7, w ∈ wsX0_nextTemperature := by decide +kernel
  have hi_X1 : ∀ w ∈ u_ws RX1 TX1 8, w ∈ wsX0_nextTemperature := by decide +kernel
  obtain ⟨H, hH9⟩ : ∃ H, H = s.heap := ⟨_, rfl⟩
  rw [← hH9] at hP ⊢
  have hS : va_S A s.heap H [] := by rw [hH9]; exact va_S.rf
  refine lv_iconst (v := nI 0) hx hb dX0_nextTemperature_0 (by decide +kernel) ?_
  refine lv_istore_n (lv' := [(3, .int (nI 0)), (0, .ref (a 0)), (1, .ref (b 0)), (2, .int (nI z0))]) hx hb dX0_nextTemperature_1 rfl hl (by decide) rfl (fun ls hl => ?_)
  refine lv_iconst (v := nI 0) hx hb dX0_nextTemperature_2 (by decide +kernel) ?_
  refine lv_istore (lv' := [(4, .int (nI 0)), (3, .int (nI 0)), (0, .ref (a 0)), (1, .ref (b 0)), (2, .int (nI z0))]) hx hb dX0_nextTemperature_3 hl (by decide) rfl (fun ls hl => ?_)
  have lp : ∀ (n z : Nat), z + n = 8 → ∀ (H : Heap) (locs : List Loc), va_P D vwCl (wH cI cZ cO a b T E Dm F S C la Lo Se Ef gp gi am li dl) H → va_D A (wH cI cZ cO a b T E Dm F S C la Lo Se Ef gp gi am li dl) → va_S A s.heap H locs → ∀ ls : Array Slot, lv_has ls 6 [(0, .ref (a 0)), (1, .ref (b 0)), (2, .int (nI z0)), (3, .int (mCo Ef S z0 z)), (4, .int (nI z))] → W p l e rmX0_nextTemperature s m args below meth c H locs 0 0 Q (F0 m 5 ls []) := by
    intro n
    induction n with
    | zero =>
      intro z hz H locs hP hD hS ls hl
      have hz9 : z = 8 := by omega
      subst hz9
      refine lv_iload hx hb dX0_nextTemperature_5 (lv_at hl 4 rfl) ?_
      refine lv_bipush (v := nI 8) hx hb dX0_nextTemperature_7 (by decide +kernel) ?_
      refine lv_icmp_ge (tgt := 38) hx hb dX0_nextTemperature_9 (by decide) (fun _ => ?_) (fun c9 => absurd (nI_le (Nat.le_refl 8) (by decide)) c9)
      refine lv_aload_n hx hb dX0_nextTemperature_38 rfl (lv_at hl 0 rfl) ?_
      refine va_get (D := D) (ci := 0) (v := .ref (a 1)) (C := RX0) (T := TX0) (N := 7) hx hb hts hi_X0 hown hK hP 0 rfl rfl 0 (by decide) (hts (.fieldLink RX0 9 "Coldaisle$Hall" "temperature" "[I") (by decide +kernel)) (fun _ h9 => h9) rfl dX0_nextTemperature_39 ?_
      refine lv_iload_n hx hb dX0_nextTemperature_42 rfl (lv_at hl 2 rfl) ?_
      refine k_iald hx hb hK hP 1 0 rfl rfl (i := z0) (by omega) (by decide) dX0_nextTemperature_43 ?_
      refine lv_istore (lv' := [(4, .int (T z0)), (0, .ref (a 0)), (1, .ref (b 0)), (2, .int (nI z0)), (3, .int (mCo Ef S z0 8))]) hx hb dX0_nextTemperature_44 hl (by decide) rfl (fun ls hl => ?_)
      refine lv_aload_n hx hb dX0_nextTemperature_46 rfl (lv_at hl 2 rfl) ?_
      refine va_get (D := D) (ci := 1) (v := .int am) (C := RX1) (T := TX1) (N := 8) hx hb hts hi_X1 hown hK hP 7 rfl rfl 5 (by decide) (hts (.fieldLink RX0 105 "Coldaisle$Settings" "ambient" "I") (by decide +kernel)) (fun _ h9 => h9) rfl dX0_nextTemperature_47 ?_
      refine lv_iload hx hb dX0_nextTemperature_50 (lv_at hl 0 rfl) ?_
      refine lv_isub hx hb dX0_nextTemperature_52 ?_
      refine lv_bipush (v := nI 64) hx hb dX0_nextTemperature_53 (by decide +kernel) ?_
      refine kCall_i (W0 := []) (W1 := []) hP hD hS hA [] rfl rfl (va_runS (As := [.int (am - (T z0)), .int (nI 64)]) (rest := []) ⟨hx, hb, hml, hown, hts⟩ (c_J9_floorDiv_7cf53 l D cI cZ cO cJ (am - (T z0)) (nI 64) H.size (by decide +kernel)) (va_cwS (rm := rmJ9_floorDiv_7cf53) 2 hts gX0_nextTemperature_J9_floorDiv_7cf53 rfl rfl rfl (by decide +kernel) ⟨Nat.le_of_ble_eq_true rfl, Nat.le_of_ble_eq_true rfl⟩) (kPreS hK hN hP hD [] rfl rfl) rfl rfl hl.1 rfl (lv_room (Nat.le_of_ble_eq_true rfl)) dX0_nextTemperature_55 ⟨Nat.zero_le _, Nat.zero_le _⟩) (fun H locs hP hD hS => ?_)
      have hP : va_P D vwCl (wH cI cZ cO a b T E Dm F S C la Lo Se Ef gp gi am li dl) H := hP
      have hD : va_D A (wH cI cZ cO a b T E Dm F S C la Lo Se Ef gp gi am li dl) := hD
      refine lv_istore (lv' := [(5, .int (mFd (am - (T z0)) (nI 64))), (4, .int (T z0)), (0, .ref (a 0)), (1, .ref (b 0)), (2, .int (nI z0)), (3, .int (mCo Ef S z0 8))]) hx hb dX0_nextTemperature_58 hl (by decide) rfl (fun ls hl => ?_)
      refine lv_iload hx hb dX0_nextTemperature_60 (lv_at hl 1 rfl) ?_
      refine lv_aload_n hx hb dX0_nextTemperature_62 rfl (lv_at hl 3 rfl) ?_
      refine va_get (D := D) (ci := 1) (v := .ref (b 1)) (C := RX1) (T := TX1) (N := 8) hx hb hts hi_X1 hown hK hP 7 rfl rfl 0 (by decide) (hts (.fieldLink RX0 108 "Coldaisle$Settings" "load" "[I") (by decide +kernel)) (fun _ h9 => h9) rfl dX0_nextTemperature_63 ?_
      refine lv_iload_n hx hb dX0_nextTemperature_66 rfl (lv_at hl 4 rfl) ?_
      refine k_iald hx hb hK hP 8 0 rfl rfl (i := z0) (by omega) (by decide) dX0_nextTemperature_67 ?_
      refine lv_iadd hx hb dX0_nextTemperature_68 ?_
      refine lv_iload hx hb dX0_nextTemperature_69 (lv_at hl 0 rfl) ?_
      refine lv_iadd hx hb dX0_nextTemperature_71 ?_
      refine lv_iload_n hx hb dX0_nextTemperature_72 rfl (lv_at hl 5 rfl) ?_
      refine lv_bipush (v := nI 100) hx hb dX0_nextTemperature_73 (by decide +kernel) ?_
      refine lv_idiv hx hb dX0_nextTemperature_75 (by decide +kernel) ?_
      refine lv_isub hx hb dX0_nextTemperature_76 ?_
      subst hQ9
      subst hA9
      exact kRet_i hx hb hr hlocks hP hS dX0_nextTemperature_77 rfl
    | succ n ih =>
      intro z hz H locs hP hD hS ls hl
      have hzb : z < 8 := by omega
      refine lv_iload hx hb dX0_nextTemperature_5 (lv_at hl 4 rfl) ?_
      refine lv_bipush (v := nI 8) hx hb dX0_nextTemperature_7 (by decide +kernel) ?_
      refine lv_icmp_ge (tgt := 38) hx hb dX0_nextTemperature_9 (by decide) (fun c9 => absurd c9 (nI_ge hzb (by decide))) (fun _ => ?_)
      refine lv_iload_n hx hb dX0_nextTemperature_12 rfl (lv_at hl 3 rfl) ?_
      refine lv_aload_n hx hb dX0_nextTemperature_13 rfl (lv_at hl 1 rfl) ?_
      refine va_get (D := D) (ci := 1) (v := .ref (b 3)) (C := RX1) (T := TX1) (N := 8) hx hb hts hi_X1 hown hK hP 7 rfl rfl 2 (by decide) (hts (.fieldLink RX0 85 "Coldaisle$Settings" "effect" "[[I") (by decide +kernel)) (fun _ h9 => h9) rfl dX0_nextTemperature_14 ?_
      refine lv_iload hx hb dX0_nextTemperature_17 (lv_at hl 4 rfl) ?_
      refine k_aald hx hb hK hP 10 2 rfl rfl (i := z) (by omega) (by decide) dX0_nextTemperature_19 ?_
      refine lv_iload_n hx hb dX0_nextTemperature_20 rfl (lv_at hl 2 rfl) ?_
      refine k_iald hx hb hK hP _ 0 (wH_eff (j := z) (by omega)) rfl (i := z0) (by omega) (by decide) dX0_nextTemperature_21 ?_
      refine lv_aload_n hx hb dX0_nextTemperature_22 rfl (lv_at hl 0 rfl) ?_
      refine va_get (D := D) (ci := 0) (v := .ref (a 5)) (C := RX0) (T := TX0) (N := 7) hx hb hts hi_X0 hown hK hP 0 rfl rfl 4 (by decide) (hts (.fieldLink RX0 25 "Coldaisle$Hall" "speed" "[I") (by decide +kernel)) (fun _ h9 => h9) rfl dX0_nextTemperature_23 ?_
      refine lv_iload hx hb dX0_nextTemperature_26 (lv_at hl 4 rfl) ?_
      refine k_iald hx hb hK hP 5 0 rfl rfl (i := z) (by omega) (by decide) dX0_nextTemperature_28 ?_
      refine lv_imul hx hb dX0_nextTemperature_29 ?_
      refine lv_iadd hx hb dX0_nextTemperature_30 ?_
      refine lv_istore_n (lv' := [(3, .int ((mCo Ef S z0 z) + (((Ef z) z0) * (S z)))), (0, .ref (a 0)), (1, .ref (b 0)), (2, .int (nI z0)), (4, .int (nI z))]) hx hb dX0_nextTemperature_31 rfl hl (by decide) rfl (fun ls hl => ?_)
      refine lv_iinc (v := nI (z + 1)) (lv' := [(4, .int (nI (z + 1))), (3, .int ((mCo Ef S z0 z) + (((Ef z) z0) * (S z)))), (0, .ref (a 0)), (1, .ref (b 0)), (2, .int (nI z0))]) hx hb dX0_nextTemperature_32 hl (k := 4) rfl (k_inc _) (by decide) rfl (fun ls hl => ?_)
      refine lv_goto (tgt := 5) hx hb dX0_nextTemperature_35 (by decide) ?_
      exact ih (z + 1) (by omega) H locs hP hD hS ls (lv_sub hl [2, 3, 4, 1, 0] rfl)
  exact lp 8 0 rfl H [] hP hD hS ls (lv_sub hl [2, 3, 4, 1, 0] rfl)

abbrev rmX0_runMinute : Room := { frames := 3, cells := 0, slots := 0, locals := 69 }
set_option maxHeartbeats 4000000 in
set_option maxRecDepth 100000 in
/-- runMinute -/
theorem c_X0_runMinute (l : Launch) (D : va_G) (cI cZ cO cJ : ClassId) (a b : Nat → Nat) (T E Dm F S : Nat → Int32) (C : Nat → Nat → Int32) (la : Nat) (Lo Se : Nat → Int32) (Ef : Nat → Nat → Int32) (gp gi am li : Int32) (dl : Nat) (sz : Nat) (h1 : la < 9) (h2 : dl < 9) : kMv l yX0_runMinute wsX0_runMinute rmX0_runMinute D (kT cI cZ cO cJ) [.ref (a 0), .ref (b 0)] (wH cI cZ cO a b T E Dm F S C la Lo Se Ef gp gi am li dl) (wH cI cZ cO a b (nT gp gi am T E Dm F S C la Lo Se Ef dl) (nE T E Se) (nD gp gi T E Dm F Se Ef) F (nS gp gi T E Dm F S C la Se Ef dl) (nC gp gi T E Dm F C la Se Ef) ((la + 1) % 9) Lo Se Ef gp gi am li dl) sz := by
  refine kEnter (cc := cX0_runMinute) (maxL := 4) (ret := none) (by decide +kernel) rfl (Nat.le_of_ble_eq_true rfl) ?_
  intro p e s m below meth c args hx hb hr hml hts hown hlocks hin hK hN A hA9 Q hQ9 hP hD hsz hS hA ls hl
  have hl : lv_has ls 4 [(0, .ref (a 0)), (1, .ref (b 0))] := hl
  have hi_X0 : ∀ w ∈ u_ws RX0 TX0 7, w ∈ wsX0_runMinute := by decide +kernel
  have hi_X1 : ∀ w ∈ u_ws RX1 TX1 8, w ∈ wsX0_runMinute := by decide +kernel
  obtain ⟨H, hH9⟩ : ∃ H, H = s.heap := ⟨_, rfl⟩
  rw [← hH9] at hP ⊢
  have hS : va_S A s.heap H [] := by rw [hH9]; exact va_S.rf
  refine lv_iconst (v := nI 0) hx hb dX0_runMinute_0 (by decide +kernel) ?_
  refine lv_istore_n (lv' := [(2, .int (nI 0)), (0, .ref (a 0)), (1, .ref (b 0))]) hx hb dX0_runMinute_1 rfl hl (by decide) rfl (fun ls hl => ?_)
  have lp : ∀ (n z : Nat), z + n = 6 → ∀ (H : Heap) (locs : List Loc), va_P D vwCl (wH cI cZ cO a b T (mFl z (mE1 T E Se) E) (mFl z (mD1 gp gi T E Se F Ef) Dm) F S C la Lo Se Ef gp gi am li dl) H → va_D A (wH cI cZ cO a b T (mFl z (mE1 T E Se) E) (mFl z (mD1 gp gi T E Se F Ef) Dm) F S C la Lo Se Ef gp gi am li dl) → va_S A s.heap H locs → ∀ ls : Array Slot, lv_has ls 4 [(0, .ref (a 0)), (1, .ref (b 0)), (2, .int (nI z))] → W p l e rmX0_runMinute s m args below meth c H locs 0 0 Q (F0 m 2 ls []) := by
    intro n
    induction n with
    | zero =>
      intro z hz H locs hP hD hS ls hl
      have hz9 : z = 6 := by omega
      subst hz9
      refine lv_iload_n hx hb dX0_runMinute_2 rfl (lv_at hl 2 rfl) ?_
      refine lv_bipush (v := nI 6) hx hb dX0_runMinute_3 (by decide +kernel) ?_
      refine lv_icmp_ge (tgt := 34) hx hb dX0_runMinute_5 (by decide) (fun _ => ?_) (fun c9 => absurd (nI_le (Nat.le_refl 6) (by decide)) c9)
      have hP : va_P D vwCl (wH cI cZ cO a b T (nE T E Se) (nD gp gi T E Dm F Se Ef) F S C la Lo Se Ef gp gi am li dl) H := hP
      have hD : va_D A (wH cI cZ cO a b T (nE T E Se) (nD gp gi T E Dm F Se Ef) F S C la Lo Se Ef gp gi am li dl) := hD
      refine lv_aload_n hx hb dX0_runMinute_34 rfl (lv_at hl 0 rfl) ?_
      refine lv_aload_n hx hb dX0_runMinute_35 rfl (lv_at hl 1 rfl) ?_
      refine kCallW_v (W1 := wH cI cZ cO a b T (nE T E Se) (nD gp gi T E Dm F Se Ef) F S (va_up C ((la + 1) % 9) (mFl 8 (mG1 Ef (nD gp gi T E Dm F Se Ef)) (C ((la + 1) % 9)))) ((la + 1) % 9) Lo Se Ef gp gi am li dl) hD hS hA rfl (va_runV (As := [.ref (b 0)]) (rest := []) ⟨hx, hb, hml, hown, hts⟩ (c_X0_commandFans l D cI cZ cO cJ a b T (nE T E Se) (nD gp gi T E Dm F Se Ef) F S C la Lo Se Ef gp gi am li dl H.size (by omega)) (cwV (rm := rmX0_commandFans) 1 hts gX0_runMinute_X0_commandFans rfl rfl rfl (by decide +kernel) ⟨Nat.le_of_ble_eq_true rfl, Nat.le_of_ble_eq_true rfl⟩) (kPreVW hK hN hP hD (va_recv hK hP (ci := 0) (q0 := 0) rfl rfl)) rfl rfl hl.1 rfl (lv_room (Nat.le_of_ble_eq_true rfl)) dX0_runMinute_36 ⟨Nat.zero_le _, Nat.zero_le _⟩) (fun H locs hP hD hS => ?_)
      have hP : va_P D vwCl (wH cI cZ cO a b T (nE T E Se) (nD gp gi T E Dm F Se Ef) F S (nC gp gi T E Dm F C la Se Ef) ((la + 1) % 9) Lo Se Ef gp gi am li dl) H := hP
      have hD : va_D A (wH cI cZ cO a b T (nE T E Se) (nD gp gi T E Dm F Se Ef) F S (nC gp gi T E Dm F C la Se Ef) ((la + 1) % 9) Lo Se Ef gp gi am li dl) := hD
      refine lv_aload_n hx hb dX0_runMinute_39 rfl (lv_at hl 0 rfl) ?_
      refine lv_aload_n hx hb dX0_runMinute_40 rfl (lv_at hl 1 rfl) ?_
      refine kCallW_v (W1 := wH cI cZ cO a b T (nE T E Se) (nD gp gi T E Dm F Se Ef) F (mFl 8 (mS1 F ((nC gp gi T E Dm F C la Se Ef) (((la + 1) % 9 + 9 - dl) % 9))) S) (nC gp gi T E Dm F C la Se Ef) ((la + 1) % 9) Lo Se Ef gp gi am li dl) hD hS hA rfl (va_runV (As := [.ref (b 0)]) (rest := []) ⟨hx, hb, hml, hown, hts⟩ (c_X0_turnFans l D cI cZ cO cJ a b T (nE T E Se) (nD gp gi T E Dm F Se Ef) F S (nC gp gi T E Dm F C la Se Ef) ((la + 1) % 9) Lo Se Ef gp gi am li dl H.size (by omega) (by omega)) (cwV (rm := rmX0_turnFans) 1 hts gX0_runMinute_X0_turnFans rfl rfl rfl (by decide +kernel) ⟨Nat.le_of_ble_eq_true rfl, Nat.le_of_ble_eq_true rfl⟩) (kPreVW hK hN hP hD (va_recv hK hP (ci := 0) (q0 := 0) rfl rfl)) rfl rfl hl.1 rfl (lv_room (Nat.le_of_ble_eq_true rfl)) dX0_runMinute_41 ⟨Nat.zero_le _, Nat.zero_le _⟩) (fun H locs hP hD hS => ?_)
      have hP : va_P D vwCl (wH cI cZ cO a b T (nE T E Se) (nD gp gi T E Dm F Se Ef) F (nS gp gi T E Dm F S C la Se Ef dl) (nC gp gi T E Dm F C la Se Ef) ((la + 1) % 9) Lo Se Ef gp gi am li dl) H := hP
      have hD : va_D A (wH cI cZ cO a b T (nE T E Se) (nD gp gi T E Dm F Se Ef) F (nS gp gi T E Dm F S C la Se Ef dl) (nC gp gi T E Dm F C la Se Ef) ((la + 1) % 9) Lo Se Ef gp gi am li dl) := hD
      refine lv_iconst (v := nI 0) hx hb dX0_runMinute_44 (by decide +kernel) ?_
      refine lv_istore_n (lv' := [(2, .int (nI 0)), (0, .ref (a 0)), (1, .ref (b 0))]) hx hb dX0_runMinute_45 rfl hl (by decide) rfl (fun ls hl => ?_)
      have lq : ∀ (n z : Nat), z + n = 6 → ∀ (H : Heap) (locs : List Loc), va_P D vwCl (wH cI cZ cO a b (mFl z (mT1 am T Lo Ef (nS gp gi T E Dm F S C la Se Ef dl)) T) (nE T E Se) (nD gp gi T E Dm F Se Ef) F (nS gp gi T E Dm F S C la Se Ef dl) (nC gp gi T E Dm F C la Se Ef) ((la + 1) % 9) Lo Se Ef gp gi am li dl) H → va_D A (wH cI cZ cO a b (mFl z (mT1 am T Lo Ef (nS gp gi T E Dm F S C la Se Ef dl)) T) (nE T E Se) (nD gp gi T E Dm F Se Ef) F (nS gp gi T E Dm F S C la Se Ef dl) (nC gp gi T E Dm F C la Se Ef) ((la + 1) % 9) Lo Se Ef gp gi am li dl) → va_S A s.heap H locs → ∀ ls : Array Slot, lv_has ls 4 [(0, .ref (a 0)), (1, .ref (b 0)), (2, .int (nI z))] → W p l e rmX0_runMinute s m args below meth c H locs 0 0 Q (F0 m 46 ls []) := by
        intro n
        induction n with
        | zero =>
          intro z hz H locs hP hD hS ls hl
          have hz9 : z = 6 := by omega
          subst hz9
          refine lv_iload_n hx hb dX0_runMinute_46 rfl (lv_at hl 2 rfl) ?_
          refine lv_bipush (v := nI 6) hx hb dX0_runMinute_47 (by decide +kernel) ?_
          refine lv_icmp_ge (tgt := 70) hx hb dX0_runMinute_49 (by decide) (fun _ => ?_) (fun c9 => absurd (nI_le (Nat.le_refl 6) (by decide)) c9)
          subst hQ9
          subst hA9
          exact kRet_v hx hb hr hlocks hP hS dX0_runMinute_70
        | succ n ih =>
          intro z hz H locs hP hD hS ls hl
          have hzb : z < 6 := by omega
          refine lv_iload_n hx hb dX0_runMinute_46 rfl (lv_at hl 2 rfl) ?_
          refine lv_bipush (v := nI 6) hx hb dX0_runMinute_47 (by decide +kernel) ?_
          refine lv_icmp_ge (tgt := 70) hx hb dX0_runMinute_49 (by decide) (fun c9 => absurd c9 (nI_ge hzb (by decide))) (fun _ => ?_)
          refine lv_aload_n hx hb dX0_runMinute_52 rfl (lv_at hl 0 rfl) ?_
          refine va_get (D := D) (ci := 0) (v := .ref (a 1)) (C := RX0) (T := TX0) (N := 7) hx hb hts hi_X0 hown hK hP 0 rfl rfl 0 (by decide) (hts (.fieldLink RX0 9 "Coldaisle$Hall" "temperature" "[I") (by decide +kernel)) (fun _ h9 => h9) rfl dX0_runMinute_53 ?_
          refine lv_iload_n hx hb dX0_runMinute_56 rfl (lv_at hl 2 rfl) ?_
          refine lv_aload_n hx hb dX0_runMinute_57 rfl (lv_at hl 0 rfl) ?_
          refine lv_aload_n hx hb dX0_runMinute_58 rfl (lv_at hl 1 rfl) ?_
          refine lv_iload_n hx hb dX0_runMinute_59 rfl (lv_at hl 2 rfl) ?_
          have hc := c_X0_nextTemperature l D cI cZ cO cJ a b (mFl z (mT1 am T Lo Ef (nS gp gi T E Dm F S C la Se Ef dl)) T) (nE T E Se) (nD gp gi T E Dm F Se Ef) F (nS gp gi T E Dm F S C la Se Ef dl) (nC gp gi T E Dm F C la Se Ef) ((la + 1) % 9) Lo Se Ef gp gi am li dl z H.size (by omega)
          rw [mFl_at] at hc
          refine kCallW_i (W1 := wH cI cZ cO a b (mFl z (mT1 am T Lo Ef (nS gp gi T E Dm F S C la Se Ef dl)) T) (nE T E Se) (nD gp gi T E Dm F Se Ef) F (nS gp gi T E Dm F S C la Se Ef dl) (nC gp gi T E Dm F C la Se Ef) ((la + 1) % 9) Lo Se Ef gp gi am li dl) hD hS hA rfl (va_runV (As := [.ref (b 0), .int (nI z)]) (rest := [.int (nI z), .ref (a 1)]) ⟨hx, hb, hml, hown, hts⟩ (hc) (cwV (rm := rmX0_nextTemperature) 2 hts gX0_runMinute_X0_nextTemperature rfl rfl rfl (by decide +kernel) ⟨Nat.le_of_ble_eq_true rfl, Nat.le_of_ble_eq_true rfl⟩) (kPreVW hK hN hP hD (va_recv hK hP (ci := 0) (q0 := 0) rfl rfl)) rfl rfl hl.1 rfl (lv_room (Nat.le_of_ble_eq_true rfl)) dX0_runMinute_60 ⟨Nat.zero_le _, Nat.zero_le _⟩) (fun H locs hP hD hS => ?_)
          refine k_iast hx hb hK hP hD hS 1 0 rfl rfl (i := z) (x := mTn (T z) (Lo z) am (mCo Ef (nS gp gi T E Dm F S C la Se Ef dl) z 8)) (by omega) (by decide) dX0_runMinute_63 (fun H locs hP hD hS => ?_)
          have hP : va_P D vwCl (wH cI cZ cO a b (upd (mFl z (mT1 am T Lo Ef (nS gp gi T E Dm F S C la Se Ef dl)) T) z (mTn (T z) (Lo z) am (mCo Ef (nS gp gi T E Dm F S C la Se Ef dl) z 8))) (nE T E Se) (nD gp gi T E Dm F Se Ef) F (nS gp gi T E Dm F S C la Se Ef dl) (nC gp gi T E Dm F C la Se Ef) ((la + 1) % 9) Lo Se Ef gp gi am li dl) H := hP
          have hD : va_D A (wH cI cZ cO a b (upd (mFl z (mT1 am T Lo Ef (nS gp gi T E Dm F S C la Se Ef dl)) T) z (mTn (T z) (Lo z) am (mCo Ef (nS gp gi T E Dm F S C la Se Ef dl) z 8))) (nE T E Se) (nD gp gi T E Dm F Se Ef) F (nS gp gi T E Dm F S C la Se Ef dl) (nC gp gi T E Dm F C la Se Ef) ((la + 1) % 9) Lo Se Ef gp gi am li dl) := hD
          have hP : va_P D vwCl (wH cI cZ cO a b (mFl (z + 1) (mT1 am T Lo Ef (nS gp gi T E Dm F S C la Se Ef dl)) T) (nE T E Se) (nD gp gi T E Dm F Se Ef) F (nS gp gi T E Dm F S C la Se Ef dl) (nC gp gi T E Dm F C la Se Ef) ((la + 1) % 9) Lo Se Ef gp gi am li dl) H := by rw [← mFl_up z (mT1 am T Lo Ef (nS gp gi T E Dm F S C la Se Ef dl)) T]; exact hP
          have hD : va_D A (wH cI cZ cO a b (mFl (z + 1) (mT1 am T Lo Ef (nS gp gi T E Dm F S C la Se Ef dl)) T) (nE T E Se) (nD gp gi T E Dm F Se Ef) F (nS gp gi T E Dm F S C la Se Ef dl) (nC gp gi T E Dm F C la Se Ef) ((la + 1) % 9) Lo Se Ef gp gi am li dl) := by rw [← mFl_up z (mT1 am T Lo Ef (nS gp gi T E Dm F S C la Se Ef dl)) T]; exact hD
          refine lv_iinc (v := nI (z + 1)) (lv' := [(2, .int (nI (z + 1))), (0, .ref (a 0)), (1, .ref (b 0))]) hx hb dX0_runMinute_64 hl (k := 2) rfl (k_inc _) (by decide) rfl (fun ls hl => ?_)
          refine lv_goto (tgt := 46) hx hb dX0_runMinute_67 (by decide) ?_
          exact ih (z + 1) (by omega) H locs hP hD hS ls (lv_sub hl [1, 2, 0] rfl)
      exact lq 6 0 rfl H locs (by simp only [mFl_0]; exact hP) (by simp only [mFl_0]; exact hD) hS ls (lv_sub hl [1, 2, 0] rfl)
    | succ n ih =>
      intro z hz H locs hP hD hS ls hl
      have hzb : z < 6 := by omega
      refine lv_iload_n hx hb dX0_runMinute_2 rfl (lv_at hl 2 rfl) ?_
      refine lv_bipush (v := nI 6) hx hb dX0_runMinute_3 (by decide +kernel) ?_
      refine lv_icmp_ge (tgt := 34) hx hb dX0_runMinute_5 (by decide) (fun c9 => absurd c9 (nI_ge hzb (by decide))) (fun _ => ?_)
      refine lv_aload_n hx hb dX0_runMinute_8 rfl (lv_at hl 0 rfl) ?_
      refine lv_aload_n hx hb dX0_runMinute_9 rfl (lv_at hl 1 rfl) ?_
      refine lv_iload_n hx hb dX0_runMinute_10 rfl (lv_at hl 2 rfl) ?_
      have hc := c_X0_control l D cI cZ cO cJ a b T (mFl z (mE1 T E Se) E) (mFl z (mD1 gp gi T E Se F Ef) Dm) F S C la Lo Se Ef gp gi am li dl z H.size (by omega)
      rw [mFl_at] at hc
      refine kCallW_i (W1 := wH cI cZ cO a b T (upd (mFl z (mE1 T E Se) E) z (mEr (T z) (E z) (Se z))) (mFl z (mD1 gp gi T E Se F Ef) Dm) F S C la Lo Se Ef gp gi am li dl) hD hS hA rfl (va_runV (As := [.ref (b 0), .int (nI z)]) (rest := []) ⟨hx, hb, hml, hown, hts⟩ (hc) (cwV (rm := rmX0_control) 2 hts gX0_runMinute_X0_control rfl rfl rfl (by decide +kernel) ⟨Nat.le_of_ble_eq_true rfl, Nat.le_of_ble_eq_true rfl⟩) (kPreVW hK hN hP hD (va_recv hK hP (ci := 0) (q0 := 0) rfl rfl)) rfl rfl hl.1 rfl (lv_room (Nat.le_of_ble_eq_true rfl)) dX0_runMinute_11 ⟨Nat.zero_le _, Nat.zero_le _⟩) (fun H locs hP hD hS => ?_)
      have hP : va_P D vwCl (wH cI cZ cO a b T (mFl (z + 1) (mE1 T E Se) E) (mFl z (mD1 gp gi T E Se F Ef) Dm) F S C la Lo Se Ef gp gi am li dl) H := by rw [← mFl_up z (mE1 T E Se) E]; exact hP
      have hD : va_D A (wH cI cZ cO a b T (mFl (z + 1) (mE1 T E Se) E) (mFl z (mD1 gp gi T E Se F Ef) Dm) F S C la Lo Se Ef gp gi am li dl) := by rw [← mFl_up z (mE1 T E Se) E]; exact hD
      refine lv_istore_n (lv' := [(3, .int (mWa gp gi (T z) (Se z) (mEr (T z) (E z) (Se z)))), (0, .ref (a 0)), (1, .ref (b 0)), (2, .int (nI z))]) hx hb dX0_runMinute_14 rfl hl (by decide) rfl (fun ls hl => ?_)
      refine lv_aload_n hx hb dX0_runMinute_15 rfl (lv_at hl 1 rfl) ?_
      refine va_get (D := D) (ci := 0) (v := .ref (a 3)) (C := RX0) (T := TX0) (N := 7) hx hb hts hi_X0 hown hK hP 0 rfl rfl 2 (by decide) (hts (.fieldLink RX0 18 "Coldaisle$Hall" "demand" "[I") (by decide +kernel)) (fun _ h9 => h9) rfl dX0_runMinute_16 ?_
      refine lv_iload_n hx hb dX0_runMinute_19 rfl (lv_at hl 3 rfl) ?_
      refine lv_aload_n hx hb dX0_runMinute_20 rfl (lv_at hl 1 rfl) ?_
      refine lv_aload_n hx hb dX0_runMinute_21 rfl (lv_at hl 2 rfl) ?_
      refine lv_iload_n hx hb dX0_runMinute_22 rfl (lv_at hl 3 rfl) ?_
      refine lv_iload_n hx hb dX0_runMinute_23 rfl (lv_at hl 0 rfl) ?_
      refine kCallW_i (W1 := wH cI cZ cO a b T (mFl (z + 1) (mE1 T E Se) E) (mFl z (mD1 gp gi T E Se F Ef) Dm) F S C la Lo Se Ef gp gi am li dl) hD hS hA rfl (va_runV (As := [.ref (b 0), .int (nI z), .int (mWa gp gi (T z) (Se z) (mEr (T z) (E z) (Se z)))]) (rest := [.int (nI z), .ref (a 3)]) ⟨hx, hb, hml, hown, hts⟩ (c_X0_raiseForFailures l D cI cZ cO cJ a b T (mFl (z + 1) (mE1 T E Se) E) (mFl z (mD1 gp gi T E Se F Ef) Dm) F S C la Lo Se Ef gp gi am li dl z (mWa gp gi (T z) (Se z) (mEr (T z) (E z) (Se z))) H.size (by omega)) (cwV (rm := rmX0_raiseForFailures) 3 hts gX0_runMinute_X0_raiseForFailures rfl rfl rfl (by decide +kernel) ⟨Nat.le_of_ble_eq_true rfl, Nat.le_of_ble_eq_true rfl⟩) (kPreVW hK hN hP hD (va_recv hK hP (ci := 0) (q0 := 0) rfl rfl)) rfl rfl hl.1 rfl (lv_room (Nat.le_of_ble_eq_true rfl)) dX0_runMinute_24 ⟨Nat.zero_le _, Nat.zero_le _⟩) (fun H locs hP hD hS => ?_)
      refine k_iast hx hb hK hP hD hS 3 0 rfl rfl (i := z) (x := mRa F (fun f => Ef f z) (mWa gp gi (T z) (Se z) (mEr (T z) (E z) (Se z)))) (by omega) (by decide) dX0_runMinute_27 (fun H locs hP hD hS => ?_)
      have hP : va_P D vwCl (wH cI cZ cO a b T (mFl (z + 1) (mE1 T E Se) E) (upd (mFl z (mD1 gp gi T E Se F Ef) Dm) z (mRa F (fun f => Ef f z) (mWa gp gi (T z) (Se z) (mEr (T z) (E z) (Se z))))) F S C la Lo Se Ef gp gi am li dl) H := hP
      have hD : va_D A (wH cI cZ cO a b T (mFl (z + 1) (mE1 T E Se) E) (upd (mFl z (mD1 gp gi T E Se F Ef) Dm) z (mRa F (fun f => Ef f z) (mWa gp gi (T z) (Se z) (mEr (T z) (E z) (Se z))))) F S C la Lo Se Ef gp gi am li dl) := hD
      have hP : va_P D vwCl (wH cI cZ cO a b T (mFl (z + 1) (mE1 T E Se) E) (mFl (z + 1) (mD1 gp gi T E Se F Ef) Dm) F S C la Lo Se Ef gp gi am li dl) H := by rw [← mFl_up z (mD1 gp gi T E Se F Ef) Dm]; exact hP
      have hD : va_D A (wH cI cZ cO a b T (mFl (z + 1) (mE1 T E Se) E) (mFl (z + 1) (mD1 gp gi T E Se F Ef) Dm) F S C la Lo Se Ef gp gi am li dl) := by rw [← mFl_up z (mD1 gp gi T E Se F Ef) Dm]; exact hD
      refine lv_iinc (v := nI (z + 1)) (lv' := [(2, .int (nI (z + 1))), (3, .int (mWa gp gi (T z) (Se z) (mEr (T z) (E z) (Se z)))), (0, .ref (a 0)), (1, .ref (b 0))]) hx hb dX0_runMinute_28 hl (k := 3) rfl (k_inc _) (by decide) rfl (fun ls hl => ?_)
      refine lv_goto (tgt := 2) hx hb dX0_runMinute_31 (by decide) ?_
      exact ih (z + 1) (by omega) H locs hP hD hS ls (lv_sub hl [2, 3, 0] rfl)
  exact lp 6 0 rfl H [] (by simp only [mFl_0]; exact hP) (by simp only [mFl_0]; exact hD) hS ls (lv_sub hl [1, 2, 0] rfl)
end
section
/-! ===== the world of a Coldaisle ===== -/
def wC (cI cZ cO : ClassId) (x a t b : Nat → Nat) (ck : Nat) (Ho T E Dm F S : Nat → Int32) (C : Nat → Nat → Int32) (la : Nat) (T1 E1 D1 F1 S1 : Nat → Int32) (C1 : Nat → Nat → Int32) (la1 : Nat) (Lo Se : Nat → Int32) (Ef : Nat → Nat → Int32) (gp gi am li : Int32) (dl : Nat) : va_W :=
  [(x 0, .inr (2, [.ref (b 0), .ref (a 0), .ref (t 0), .ref (x 1), .int (nI ck)])), (x 1, .inl (cI, 6, .inl Ho)),
    (a 0, .inr (0, [.ref (a 1), .ref (a 2), .ref (a 3), .ref (a 4), .ref (a 5), .ref (a 6), .int (nI la)])), (a 1, .inl (cI, 6, .inl T)), (a 2, .inl (cI, 6, .inl E)), (a 3, .inl (cI, 6, .inl Dm)), (a 4, .inl (cZ, 8, .inl F)), (a 5, .inl (cI, 8, .inl S)), (a 6, .inl (cO, 9, .inr (.inr (.inr (.inr (fun i => some (a (7 + i)))))))),
    (t 0, .inr (0, [.ref (t 1), .ref (t 2), .ref (t 3), .ref (t 4), .ref (t 5), .ref (t 6), .int (nI la1)])), (t 1, .inl (cI, 6, .inl T1)), (t 2, .inl (cI, 6, .inl E1)), (t 3, .inl (cI, 6, .inl D1)), (t 4, .inl (cZ, 8, .inl F1)), (t 5, .inl (cI, 8, .inl S1)), (t 6, .inl (cO, 9, .inr (.inr (.inr (.inr (fun i => some (t (7 + i)))))))),
    (b 0, .inr (1, [.ref (b 1), .ref (b 2), .ref (b 3), .int gp, .int gi, .int am, .int li, .int (nI dl)])), (b 1, .inl (cI, 6, .inl Lo)), (b 2, .inl (cI, 6, .inl Se)), (b 3, .inl (cO, 8, .inr (.inr (.inr (.inr (fun i => some (b (4 + i))))))))]
  ++ (rws cI 8 9 (fun k => a (7 + k)) C ++ (rws cI 8 9 (fun k => t (7 + k)) C1 ++ (rws cI 6 8 (fun k => b (4 + k)) Ef ++ [])))
def pA : List Nat := [2, 3, 4, 5, 6, 7, 8, 16, 17, 18, 19, 20, 21, 22, 23, 24, 25, 26, 27, 28, 38, 39, 40, 41, 42, 43, 44, 45]
def pT : List Nat := [9, 10, 11, 12, 13, 14, 15, 16, 17, 18, 19, 29, 30, 31, 32, 33, 34, 35, 36, 37, 38, 39, 40, 41, 42, 43, 44, 45]
def pAR : List Nat := [0, 1, 9, 10, 11, 12, 13, 14, 15, 29, 30, 31, 32, 33, 34, 35, 36, 37]
def pTR : List Nat := [0, 1, 2, 3, 4, 5, 6, 7, 8, 20, 21, 22, 23, 24, 25, 26, 27, 28]
theorem kframe2 {A0 : Nat → Prop} {D : va_G} {ws ws' W0 W1 : va_W} {H H1 : Heap} {n : Nat} (hP : va_P D vwCl ws H) (hD : va_D A0 ws) (is isR : List Nat) (hC : is.map (fun i => ws[i]?) = W0.map some)
    (hS1 : is.map (fun i => ws'[i]?) = W1.map some) (hS2 : isR.map (fun i => ws'[i]?) = isR.map (fun i => ws[i]?)) (hlen : ws'.length = n) (hcov : (List.range n).all (fun k => is.contains k || isR.contains k) = true) (hdis : isR.all (fun k => !is.contains k) = true)
    (hFF : ws'.map (·.1) = ws.map (·.1)) (hk : ∀ q : Nat, q < H.size → ¬ va_A W0 H.size q → H1[q]? = H[q]?) (hP1 : va_P D vwCl W1 H1) : va_P D vwCl ws' H1 ∧ va_D A0 ws' := by
  refine ⟨fun k q hq => ?_, kfull hD hFF⟩
  have hkn : k < n := by rw [← hlen]; exact (List.getElem?_eq_some_iff.mp hq).1
  have h1 := List.all_eq_true.mp hcov k (List.mem_range.mpr hkn)
  by_cases hin : k ∈ is
  · obtain ⟨j, hj⟩ := List.getElem?_of_mem hin
    have h2 : (is.map (fun i => ws'[i]?))[j]? = some (some q) := by rw [List.getElem?_map, hj]; exact congrArg some hq
    rw [hS1, List.getElem?_map] at h2
    cases hw : W1[j]? with
    | none => rw [hw] at h2; cases h2
    | some q1 =>
      rw [hw] at h2
      have h3 : q1 = q := Option.some.inj (Option.some.inj h2)
      subst h3
      exact hP1 j q1 hw
  · have hR : k ∈ isR := by
      rcases Bool.or_eq_true_iff.mp h1 with h | h
      · exact absurd (List.contains_iff_mem.mp h) hin
      · exact List.contains_iff_mem.mp h
    obtain ⟨j, hj⟩ := List.getElem?_of_mem hR
    have h2 : (isR.map (fun i => ws'[i]?))[j]? = some (some q) := by rw [List.getElem?_map, hj]; exact congrArg some hq
    rw [hS2, List.getElem?_map, hj] at h2
    have h3 : ws[k]? = some q := Option.some.inj h2
    refine (hP k q h3).kept (hk q.1 ((hP k q h3).lt) ?_)
    rintro (⟨j2, e9, h4⟩ | h4)
    · obtain ⟨i, h5, h6⟩ := kplace hC h4
      have hij := hD.1 k i q (q.1, e9) h3 h6 rfl
      subst hij
      exact hin (List.mem_of_getElem? h5)
    · exact absurd ((hP k q h3).lt) (Nat.not_lt.mpr h4)
section KR2
variable {p : Program} {l : Launch} {e : Env} {R : Room} {s : State} {m : MethodId} {args : Array Value} {below : List Frame} {meth : Method} {c : Code} {H : Heap} {locs : List Loc} {cells slots : Nat} {Q : State → Prop}
variable {pc : Nat} {ls : Array Slot} {rest st0 : List Value} {a : Array Value} {A0 : Nat → Prop} {H0 : Heap} {D : va_G} {ws ws' W0 W1 : va_W} {n mc ms : Nat}
theorem kCall2_i {r : Int32} (hP : va_P D vwCl ws H) (hD : va_D A0 ws) (hS : va_S A0 H0 H locs) (hA : ∀ q, H0.size ≤ q → A0 q) (is isR : List Nat) (hC : is.map (fun i => ws[i]?) = W0.map some)
    (hS1 : is.map (fun i => ws'[i]?) = W1.map some) (hS2 : isR.map (fun i => ws'[i]?) = isR.map (fun i => ws[i]?)) (hlen : ws'.length = n) (hcov : (List.range n).all (fun k => is.contains k || isR.contains k) = true) (hdis : isR.all (fun k => !is.contains k) = true) (hFF : ws'.map (·.1) = ws.map (·.1))
    (hr : va_Run p l e R s m args below meth c H locs cells slots mc ms (F0 m pc ls st0) rest (va_Qi (fun (x : Int32) (_ : Unit) => x = r) (kB D W1) (va_A W0 H.size) a) (va_A W0 H.size))
    (kk : ∀ (H1 : Heap) (locs1 : List Loc), va_P D vwCl ws' H1 → va_D A0 ws' → va_S A0 H0 H1 locs1 → W p l e R s m args below meth c H1 locs1 (cells + mc) (slots + ms) Q (F0 m (pc + 3) ls (.int r :: rest))) : W p l e R s m args below meth c H locs cells slots Q (F0 m pc ls st0) := by
  have hFc := va_free hD hS hA is hC
  refine va_calli hr hS (fun q _ h => hFc q h) hFc (fun x u t H1 locs1 ht hvm hx hB hz hk hS1' => ?_)
  subst hx
  have hB : va_P D vwCl W1 t.heap := hB
  rw [ht] at hB
  obtain ⟨h1, h2⟩ := kframe2 hP hD is isR hC hS1 hS2 hlen hcov hdis hFF hk hB
  exact kk H1 locs1 h1 h2 hS1'
theorem kCall2_v (hP : va_P D vwCl ws H) (hD : va_D A0 ws) (hS : va_S A0 H0 H locs) (hA : ∀ q, H0.size ≤ q → A0 q) (is isR : List Nat) (hC : is.map (fun i => ws[i]?) = W0.map some)
    (hS1 : is.map (fun i => ws'[i]?) = W1.map some) (hS2 : isR.map (fun i => ws'[i]?) = isR.map (fun i => ws[i]?)) (hlen : ws'.length = n) (hcov : (List.range n).all (fun k => is.contains k || isR.contains k) = true) (hdis : isR.all (fun k => !is.contains k) = true) (hFF : ws'.map (·.1) = ws.map (·.1))
    (hr : va_Run p l e R s m args below meth c H locs cells slots mc ms (F0 m pc ls st0) rest (va_Qv (fun (_ : Unit) => True) (kB D W1) (va_A W0 H.size) a) (va_A W0 H.size))
    (kk : ∀ (H1 : Heap) (locs1 : List Loc), va_P D vwCl ws' H1 → va_D A0 ws' → va_S A0 H0 H1 locs1 → W p l e R s m args below meth c H1 locs1 (cells + mc) (slots + ms) Q (F0 m (pc + 3) ls rest)) : W p l e R s m args below meth c H locs cells slots Q (F0 m pc ls st0) := by
  have hFc := va_free hD hS hA is hC
  refine va_callv hr hS (fun q _ h => hFc q h) hFc (fun u t H1 locs1 ht hvm hx hB hz hk hS1' => ?_)
  have hB : va_P D vwCl W1 t.heap := hB
  rw [ht] at hB
  obtain ⟨h1, h2⟩ := kframe2 hP hD is isR hC hS1 hS2 hlen hcov hdis hFF hk hB
  exact kk H1 locs1 h1 h2 hS1'
theorem kCall2_r {r : Nat} (hP : va_P D vwCl ws H) (hD : va_D A0 ws) (hS : va_S A0 H0 H locs) (hA : ∀ q, H0.size ≤ q → A0 q) (is isR : List Nat) (hC : is.map (fun i => ws[i]?) = W0.map some)
    (hS1 : is.map (fun i => ws'[i]?) = W1.map some) (hS2 : isR.map (fun i => ws'[i]?) = isR.map (fun i => ws[i]?)) (hlen : ws'.length = n) (hcov : (List.range n).all (fun k => is.contains k || isR.contains k) = true) (hdis : isR.all (fun k => !is.contains k) = true) (hFF : ws'.map (·.1) = ws.map (·.1))
    (hr : va_Run p l e R s m args below meth c H locs cells slots mc ms (F0 m pc ls st0) rest (va_Qr (fun (_ : Unit) => True) (kBr D W1 r) (va_A W0 H.size) a) (va_A W0 H.size))
    (kk : ∀ (H1 : Heap) (locs1 : List Loc), va_P D vwCl ws' H1 → va_D A0 ws' → va_S A0 H0 H1 locs1 → W p l e R s m args below meth c H1 locs1 (cells + mc) (slots + ms) Q (F0 m (pc + 3) ls (.ref r :: rest))) : W p l e R s m args below meth c H locs cells slots Q (F0 m pc ls st0) := by
  have hFc := va_free hD hS hA is hC
  refine va_callr hr hS (fun q _ h => hFc q h) hFc (fun u ra t H1 locs1 ht hvm hx hB hz hk hS1' => ?_)
  obtain ⟨rfl, hB⟩ : ra = r ∧ va_P D vwCl W1 t.heap := hB
  rw [ht] at hB
  obtain ⟨h1, h2⟩ := kframe2 hP hD is isR hC hS1 hS2 hlen hcov hdis hFF hk hB
  exact kk H1 locs1 h1 h2 hS1'
end KR2
theorem rws_fst {cI : ClassId} {w n : Nat} {r : Nat → Nat} {C : Nat → Nat → Int32} : (rws cI w n r C).map (·.1) = (List.range n).map r := by
  unfold rws
  rw [List.map_map]
  rfl
theorem rws_set2 {pre B post : va_W} {cI : ClassId} {w n : Nat} {r : Nat → Nat} {C : Nat → Nat → Int32} {j N : Nat} {X : Nat → Int32} (hN : pre.length + B.length = N) (hj : j < n) : (pre ++ (B ++ (rws cI w n r C ++ post))).set (N + j) (r j, .inl (cI, w, .inl X)) = pre ++ (B ++ (rws cI w n r (va_up C j X) ++ post)) := by
  rw [← List.append_assoc pre B (rws cI w n r C ++ post), ← List.append_assoc pre B (rws cI w n r (va_up C j X) ++ post)]
  exact rws_set (by rw [List.length_append]; exact hN) hj
theorem rws_set3 {pre A B post : va_W} {cI : ClassId} {w n : Nat} {r : Nat → Nat} {C : Nat → Nat → Int32} {j N : Nat} {X : Nat → Int32} (hN : pre.length + A.length + B.length = N) (hj : j < n) : (pre ++ (A ++ (B ++ (rws cI w n r C ++ post)))).set (N + j) (r j, .inl (cI, w, .inl X)) = pre ++ (A ++ (B ++ (rws cI w n r (va_up C j X) ++ post))) := by
  rw [← List.append_assoc pre A (B ++ (rws cI w n r C ++ post)), ← List.append_assoc pre A (B ++ (rws cI w n r (va_up C j X) ++ post))]
  exact rws_set2 (by rw [List.length_append]; exact hN) hj
section WC
variable {cI cZ cO : ClassId} {x a t b : Nat → Nat} {ck : Nat} {Ho T E Dm F S : Nat → Int32} {C : Nat → Nat → Int32} {la : Nat} {T1 E1 D1 F1 S1 : Nat → Int32} {C1 : Nat → Nat → Int32} {la1 : Nat} {Lo Se : Nat → Int32} {Ef : Nat → Nat → Int32} {gp gi am li : Int32} {dl : Nat} {j : Nat}
theorem wC_ring (hj : j < 9) : (wC cI cZ cO x a t b ck Ho T E Dm F S C la T1 E1 D1 F1 S1 C1 la1 Lo Se Ef gp gi am li dl)[20 + j]? = some (a (7 + j), .inl (cI, 8, .inl (C j))) := rws_at rfl hj
theorem wC_tring (hj : j < 9) : (wC cI cZ cO x a t b ck Ho T E Dm F S C la T1 E1 D1 F1 S1 C1 la1 Lo Se Ef gp gi am li dl)[29 + j]? = some (t (7 + j), .inl (cI, 8, .inl (C1 j))) := by
  unfold wC
  rw [← List.append_assoc]
  exact rws_at (by rw [List.length_append, rws_len]; rfl) hj
theorem wC_tring_set {X : Nat → Int32} (hj : j < 9) : (wC cI cZ cO x a t b ck Ho T E Dm F S C la T1 E1 D1 F1 S1 C1 la1 Lo Se Ef gp gi am li dl).set (29 + j) (t (7 + j), .inl (cI, 8, .inl X)) = wC cI cZ cO x a t b ck Ho T E Dm F S C la T1 E1 D1 F1 S1 (va_up C1 j X) la1 Lo Se Ef gp gi am li dl := by
  refine rws_set2 (N := 29) ?_ hj
  rw [rws_len]
  rfl
theorem wC_eff (hj : j < 8) : (wC cI cZ cO x a t b ck Ho T E Dm F S C la T1 E1 D1 F1 S1 C1 la1 Lo Se Ef gp gi am li dl)[38 + j]? = some (b (4 + j), .inl (cI, 6, .inl (Ef j))) := by
  unfold wC
  rw [← List.append_assoc, ← List.append_assoc]
  exact rws_at (by rw [List.length_append, List.length_append, rws_len, rws_len]; rfl) hj
theorem wC_eff_set {X : Nat → Int32} (hj : j < 8) : (wC cI cZ cO x a t b ck Ho T E Dm F S C la T1 E1 D1 F1 S1 C1 la1 Lo Se Ef gp gi am li dl).set (38 + j) (b (4 + j), .inl (cI, 6, .inl X)) = wC cI cZ cO x a t b ck Ho T E Dm F S C la T1 E1 D1 F1 S1 C1 la1 Lo Se (va_up Ef j X) gp gi am li dl := by
  refine rws_set3 (N := 38) ?_ hj
  rw [rws_len, rws_len]
  rfl
set_option maxRecDepth 100000 in
theorem wC_hallC : pA.map (fun i => (wC cI cZ cO x a t b ck Ho T E Dm F S C la T1 E1 D1 F1 S1 C1 la1 Lo Se Ef gp gi am li dl)[i]?) = (wH cI cZ cO a b T E Dm F S C la Lo Se Ef gp gi am li dl).map some := rfl
set_option maxRecDepth 100000 in
theorem wC_tryC : pT.map (fun i => (wC cI cZ cO x a t b ck Ho T E Dm F S C la T1 E1 D1 F1 S1 C1 la1 Lo Se Ef gp gi am li dl)[i]?) = (wH cI cZ cO t b T1 E1 D1 F1 S1 C1 la1 Lo Se Ef gp gi am li dl).map some := rfl
set_option maxRecDepth 100000 in
theorem wC_hallrest : pAR.map (fun i => (wC cI cZ cO x a t b ck Ho T E Dm F S C la T1 E1 D1 F1 S1 C1 la1 Lo Se Ef gp gi am li dl)[i]?) = (([(x 0, .inr (2, [.ref (b 0), .ref (a 0), .ref (t 0), .ref (x 1), .int (nI ck)])), (x 1, .inl (cI, 6, .inl Ho)), (t 0, .inr (0, [.ref (t 1), .ref (t 2), .ref (t 3), .ref (t 4), .ref (t 5), .ref (t 6), .int (nI la1)])), (t 1, .inl (cI, 6, .inl T1)), (t 2, .inl (cI, 6, .inl E1)), (t 3, .inl (cI, 6, .inl D1)), (t 4, .inl (cZ, 8, .inl F1)), (t 5, .inl (cI, 8, .inl S1)), (t 6, .inl (cO, 9, .inr (.inr (.inr (.inr (fun i => some (t (7 + i))))))))] : va_W) ++ (rws cI 8 9 (fun k => t (7 + k)) C1 ++ [])).map some := rfl
set_option maxRecDepth 100000 in
theorem wC_tryrest : pTR.map (fun i => (wC cI cZ cO x a t b ck Ho T E Dm F S C la T1 E1 D1 F1 S1 C1 la1 Lo Se Ef gp gi am li dl)[i]?) = (([(x 0, .inr (2, [.ref (b 0), .ref (a 0), .ref (t 0), .ref (x 1), .int (nI ck)])), (x 1, .inl (cI, 6, .inl Ho)), (a 0, .inr (0, [.ref (a 1), .ref (a 2), .ref (a 3), .ref (a 4), .ref (a 5), .ref (a 6), .int (nI la)])), (a 1, .inl (cI, 6, .inl T)), (a 2, .inl (cI, 6, .inl E)), (a 3, .inl (cI, 6, .inl Dm)), (a 4, .inl (cZ, 8, .inl F)), (a 5, .inl (cI, 8, .inl S)), (a 6, .inl (cO, 9, .inr (.inr (.inr (.inr (fun i => some (a (7 + i))))))))] : va_W) ++ (rws cI 8 9 (fun k => a (7 + k)) C ++ [])).map some := rfl
theorem wC_hallR {T2 E2 D2 F2 S2 : Nat → Int32} {C2 : Nat → Nat → Int32} {la2 : Nat} : pAR.map (fun i => (wC cI cZ cO x a t b ck Ho T2 E2 D2 F2 S2 C2 la2 T1 E1 D1 F1 S1 C1 la1 Lo Se Ef gp gi am li dl)[i]?) = pAR.map (fun i => (wC cI cZ cO x a t b ck Ho T E Dm F S C la T1 E1 D1 F1 S1 C1 la1 Lo Se Ef gp gi am li dl)[i]?) := wC_hallrest.trans wC_hallrest.symm
theorem wC_hallF {T2 E2 D2 F2 S2 : Nat → Int32} {C2 : Nat → Nat → Int32} {la2 : Nat} : (wC cI cZ cO x a t b ck Ho T2 E2 D2 F2 S2 C2 la2 T1 E1 D1 F1 S1 C1 la1 Lo Se Ef gp gi am li dl).map (·.1) = (wC cI cZ cO x a t b ck Ho T E Dm F S C la T1 E1 D1 F1 S1 C1 la1 Lo Se Ef gp gi am li dl).map (·.1) := by
  unfold wC
  simp only [List.map_append, List.map_cons, List.map_nil, rws_fst]
theorem wC_tryR {T2 E2 D2 F2 S2 : Nat → Int32} {C2 : Nat → Nat → Int32} {la2 : Nat} : pTR.map (fun i => (wC cI cZ cO x a t b ck Ho T E Dm F S C la T2 E2 D2 F2 S2 C2 la2 Lo Se Ef gp gi am li dl)[i]?) = pTR.map (fun i => (wC cI cZ cO x a t b ck Ho T E Dm F S C la T1 E1 D1 F1 S1 C1 la1 Lo Se Ef gp gi am li dl)[i]?) := wC_tryrest.trans wC_tryrest.symm
theorem wC_tryF {T2 E2 D2 F2 S2 : Nat → Int32} {C2 : Nat → Nat → Int32} {la2 : Nat} : (wC cI cZ cO x a t b ck Ho T E Dm F S C la T2 E2 D2 F2 S2 C2 la2 Lo Se Ef gp gi am li dl).map (·.1) = (wC cI cZ cO x a t b ck Ho T E Dm F S C la T1 E1 D1 F1 S1 C1 la1 Lo Se Ef gp gi am li dl).map (·.1) := by
  unfold wC
  simp only [List.map_append, List.map_cons, List.map_nil, rws_fst]
theorem wC_len : (wC cI cZ cO x a t b ck Ho T E Dm F S C la T1 E1 D1 F1 S1 C1 la1 Lo Se Ef gp gi am li dl).length = 46 := rfl
end WC
end
section
/-! ===== more numbers ===== -/
def mCnt (F : Nat → Int32) : Nat → Int32
  | 0 => nI 0
  | n + 1 => if F n = 0 then mCnt F n + 1 else mCnt F n
theorem mCnt_t (F : Nat → Int32) (n : Nat) (h : F n = 0) : mCnt F (n + 1) = mCnt F n + 1 := by
  show (if F n = 0 then _ else _) = _
  rw [if_pos h]
theorem mCnt_f (F : Nat → Int32) (n : Nat) (h : ¬ F n = 0) : mCnt F (n + 1) = mCnt F n := by
  show (if F n = 0 then _ else _) = _
  rw [if_neg h]
def mBest (T : Nat → Int32) : Nat → Nat
  | 0 => 0
  | n + 1 => if T (n + 1) ≤ T (mBest T n) then mBest T n else n + 1
theorem mBest_t (T : Nat → Int32) (n : Nat) (h : T (n + 1) ≤ T (mBest T n)) : mBest T (n + 1) = mBest T n := by
  show (if T (n + 1) ≤ T (mBest T n) then _ else _) = _
  rw [if_pos h]
theorem mBest_f (T : Nat → Int32) (n : Nat) (h : ¬ T (n + 1) ≤ T (mBest T n)) : mBest T (n + 1) = n + 1 := by
  show (if T (n + 1) ≤ T (mBest T n) then _ else _) = _
  rw [if_neg h]
theorem mBest_le (T : Nat → Int32) : ∀ n : Nat, mBest T n ≤ n
  | 0 => Nat.le_refl 0
  | n + 1 => by
    have := mBest_le T n
    unfold mBest
    split <;> omega
def mNot (li : Int32) (T : Nat → Int32) : Nat → Int32
  | 0 => nI 0
  | n + 1 => if T n ≤ li then mNot li T n else mNot li T n + 1
theorem mNot_t (li : Int32) (T : Nat → Int32) (n : Nat) (h : T n ≤ li) : mNot li T (n + 1) = mNot li T n := by
  show (if T n ≤ li then _ else _) = _
  rw [if_pos h]
theorem mNot_f (li : Int32) (T : Nat → Int32) (n : Nat) (h : ¬ T n ≤ li) : mNot li T (n + 1) = mNot li T n + 1 := by
  show (if T n ≤ li then _ else _) = _
  rw [if_neg h]
def mHo (li : Int32) (T Ho : Nat → Int32) (z : Nat) : Int32 := if T z ≤ li then Ho z else Ho z + nI 1
theorem upd_same (f : Nat → Int32) (k : Nat) (v : Int32) (h : f k = v) : upd f k v = f := by
  funext j
  by_cases e : j = k
  · subst e; simp [upd, h]
  · simp [upd, e]
end
section
abbrev rmX0_stopFan : Room := { frames := 0, cells := 0, slots := 0, locals := 0 }
set_option maxHeartbeats 4000000 in
set_option maxRecDepth 100000 in
/-- stopFan -/
theorem c_X0_stopFan (l : Launch) (D : va_G) (cI cZ cO cJ : ClassId) (a b : Nat → Nat) (T E Dm F S : Nat → Int32) (C : Nat → Nat → Int32) (la : Nat) (Lo Se : Nat → Int32) (Ef : Nat → Nat → Int32) (gp gi am li : Int32) (dl : Nat) (f : Nat) (sz : Nat) (hf : f < 8) : kMv l yX0_stopFan wsX0_stopFan rmX0_stopFan D (kT cI cZ cO cJ) [.ref (a 0), .int (nI f)] (wH cI cZ cO a b T E Dm F S C la Lo Se Ef gp gi am li dl) (wH cI cZ cO a b T E Dm (upd F f (nI 1)) (upd S f (nI 0)) C la Lo Se Ef gp gi am li dl) sz := by
  refine kEnter (cc := cX0_stopFan) (maxL := 2) (ret := none) (by decide +kernel) rfl (Nat.le_of_ble_eq_true rfl) ?_
  intro p e s m below meth c args hx hb hr hml hts hown hlocks hin hK hN A hA9 Q hQ9 hP hD hsz hS hA ls hl
  have hl : lv_has ls 2 [(0, .ref (a 0)), (1, .int (nI f))] := hl
  have hi_X0 : ∀ w ∈ u_ws RX0 TX0 7, w ∈ wsX0_stopFan := by decide +kernel
  obtain ⟨H, hH9⟩ : ∃ H, H = s.heap := ⟨_, rfl⟩
  rw [← hH9] at hP ⊢
  have hS : va_S A s.heap H [] := by rw [hH9]; exact va_S.rf
  refine lv_aload_n hx hb dX0_stopFan_0 rfl (lv_at hl 0 rfl) ?_
  refine va_get (D := D) (ci := 0) (v := .ref (a 4)) (C := RX0) (T := TX0) (N := 7) hx hb hts hi_X0 hown hK hP 0 rfl rfl 3 (by decide) (hts (.fieldLink RX0 21 "Coldaisle$Hall" "failed" "[Z") (by decide +kernel)) (fun _ h9 => h9) rfl dX0_stopFan_1 ?_
  refine lv_iload_n hx hb dX0_stopFan_4 rfl (lv_at hl 1 rfl) ?_
  refine lv_iconst (v := nI 1) hx hb dX0_stopFan_5 (by decide +kernel) ?_
  refine k_zast hx hb hK hP hD hS 4 1 rfl rfl (i := f) (x := nI 1) (x' := nI 1) (by omega) (by decide) (by decide +kernel) dX0_stopFan_6 (fun H locs hP hD hS => ?_)
  have hP : va_P D vwCl (wH cI cZ cO a b T E Dm (upd F f (nI 1)) S C la Lo Se Ef gp gi am li dl) H := hP
  have hD : va_D A (wH cI cZ cO a b T E Dm (upd F f (nI 1)) S C la Lo Se Ef gp gi am li dl) := hD
  refine lv_aload_n hx hb dX0_stopFan_7 rfl (lv_at hl 0 rfl) ?_
  refine va_get (D := D) (ci := 0) (v := .ref (a 5)) (C := RX0) (T := TX0) (N := 7) hx hb hts hi_X0 hown hK hP 0 rfl rfl 4 (by decide) (hts (.fieldLink RX0 25 "Coldaisle$Hall" "speed" "[I") (by decide +kernel)) (fun _ h9 => h9) rfl dX0_stopFan_8 ?_
  refine lv_iload_n hx hb dX0_stopFan_11 rfl (lv_at hl 1 rfl) ?_
  refine lv_iconst (v := nI 0) hx hb dX0_stopFan_12 (by decide +kernel) ?_
  refine k_iast hx hb hK hP hD hS 5 0 rfl rfl (i := f) (x := nI 0) (by omega) (by decide) dX0_stopFan_13 (fun H locs hP hD hS => ?_)
  have hP : va_P D vwCl (wH cI cZ cO a b T E Dm (upd F f (nI 1)) (upd S f (nI 0)) C la Lo Se Ef gp gi am li dl) H := hP
  have hD : va_D A (wH cI cZ cO a b T E Dm (upd F f (nI 1)) (upd S f (nI 0)) C la Lo Se Ef gp gi am li dl) := hD
  subst hQ9
  subst hA9
  exact kRet_v hx hb hr hlocks hP hS dX0_stopFan_14

abbrev rmX0_countRunning : Room := { frames := 0, cells := 0, slots := 0, locals := 0 }
set_option maxHeartbeats 4000000 in
set_option maxRecDepth 100000 in
/-- countRunning -/
theorem c_X0_countRunning (l : Launch) (D : va_G) (cI cZ cO cJ : ClassId) (a b : Nat → Nat) (T E Dm F S : Nat → Int32) (C : Nat → Nat → Int32) (la : Nat) (Lo Se : Nat → Int32) (Ef : Nat → Nat → Int32) (gp gi am li : Int32) (dl : Nat) (sz : Nat) : kMi l yX0_countRunning wsX0_countRunning rmX0_countRunning D (kT cI cZ cO cJ) [.ref (a 0)] (wH cI cZ cO a b T E Dm F S C la Lo Se Ef gp gi am li dl) (wH cI cZ cO a b T E Dm F S C la Lo Se Ef gp gi am li dl) sz (mCnt F 8) := by
  refine kEnter (cc := cX0_countRunning) (maxL := 3) (ret := some .int) (by decide +kernel) rfl (Nat.le_of_ble_eq_true rfl) ?_
  intro p e s m below meth c args hx hb hr hml hts hown hlocks hin hK hN A hA9 Q hQ9 hP hD hsz hS hA ls hl
  have hl : lv_has ls 3 [(0, .ref (a 0))] := hl
  have hi_X0 : ∀ w ∈ u_ws RX0 TX0 7, w ∈ wsX0_countRunning := by decide +kernel
  obtain ⟨H, hH9⟩ : ∃ H, H = s.heap := ⟨_, rfl⟩
  rw [← hH9] at hP ⊢
  have hS : va_S A s.heap H [] := by rw [hH9]; exact va_S.rf
  refine lv_iconst (v := nI 0) hx hb dX0_countRunning_0 (by decide +kernel) ?_
  refine lv_istore_n (lv' := [(1, .int (nI 0)), (0, .ref (a 0))]) hx hb dX0_countRunning_1 rfl hl (by decide) rfl (fun ls hl => ?_)
  refine lv_iconst (v := nI 0) hx hb dX0_countRunning_2 (by decide +kernel) ?_
  refine lv_istore_n (lv' := [(2, .int (nI 0)), (1, .int (nI 0)), (0, .ref (a 0))]) hx hb dX0_countRunning_3 rfl hl (by decide) rfl (fun ls hl => ?_)
  have lp : ∀ (n z : Nat), z + n = 8 → ∀ (H : Heap) (locs : List Loc), va_P D vwCl (wH cI cZ cO a b T E Dm F S C la Lo Se Ef gp gi am li dl) H → va_D A (wH cI cZ cO a b T E Dm F S C la Lo Se Ef gp gi am li dl) → va_S A s.heap H locs → ∀ ls : Array Slot, lv_has ls 3 [(0, .ref (a 0)), (1, .int (mCnt F z)), (2, .int (nI z))] → W p l e rmX0_countRunning s m args below meth c H locs 0 0 Q (F0 m 4 ls []) := by
    intro n
    induction n with
    | zero =>
      intro z hz H locs hP hD hS ls hl
      have hz9 : z = 8 := by omega
      subst hz9
      refine lv_iload_n hx hb dX0_countRunning_4 rfl (lv_at hl 2 rfl) ?_
      refine lv_bipush (v := nI 8) hx hb dX0_countRunning_5 (by decide +kernel) ?_
      refine lv_icmp_ge (tgt := 28) hx hb dX0_countRunning_7 (by decide) (fun _ => ?_) (fun c9 => absurd (nI_le (Nat.le_refl 8) (by decide)) c9)
      refine lv_iload_n hx hb dX0_countRunning_28 rfl (lv_at hl 1 rfl) ?_
      subst hQ9
      subst hA9
      exact kRet_i hx hb hr hlocks hP hS dX0_countRunning_29 rfl
    | succ n ih =>
      intro z hz H locs hP hD hS ls hl
      have hzb : z < 8 := by omega
      refine lv_iload_n hx hb dX0_countRunning_4 rfl (lv_at hl 2 rfl) ?_
      refine lv_bipush (v := nI 8) hx hb dX0_countRunning_5 (by decide +kernel) ?_
      refine lv_icmp_ge (tgt := 28) hx hb dX0_countRunning_7 (by decide) (fun c9 => absurd c9 (nI_ge hzb (by decide))) (fun _ => ?_)
      refine lv_aload_n hx hb dX0_countRunning_10 rfl (lv_at hl 0 rfl) ?_
      refine va_get (D := D) (ci := 0) (v := .ref (a 4)) (C := RX0) (T := TX0) (N := 7) hx hb hts hi_X0 hown hK hP 0 rfl rfl 3 (by decide) (hts (.fieldLink RX0 21 "Coldaisle$Hall" "failed" "[Z") (by decide +kernel)) (fun _ h9 => h9) rfl dX0_countRunning_11 ?_
      refine lv_iload_n hx hb dX0_countRunning_14 rfl (lv_at hl 2 rfl) ?_
      refine k_zald hx hb hK hP 4 1 rfl rfl (i := z) (by omega) (by decide) dX0_countRunning_15 ?_
      refine lv_if_ne (tgt := 22) hx hb dX0_countRunning_16 (by decide) (fun c1 => ?_) (fun c1 => ?_)
      · refine lv_iinc (v := nI (z + 1)) (lv' := [(2, .int (nI (z + 1))), (0, .ref (a 0)), (1, .int (mCnt F z))]) hx hb dX0_countRunning_22 hl (k := 2) rfl (k_inc _) (by decide) rfl (fun ls hl => ?_)
        refine lv_goto (tgt := 4) hx hb dX0_countRunning_25 (by decide) ?_
        exact ih (z + 1) (by omega) H locs hP hD hS ls (by rw [mCnt_f F z c1]; exact (lv_sub hl [1, 2, 0] rfl))
      · refine lv_iinc (v := (mCnt F z) + 1) (lv' := [(1, .int ((mCnt F z) + 1)), (0, .ref (a 0)), (2, .int (nI z))]) hx hb dX0_countRunning_19 hl (k := 1) rfl rfl (by decide) rfl (fun ls hl => ?_)
        refine lv_iinc (v := nI (z + 1)) (lv' := [(2, .int (nI (z + 1))), (1, .int ((mCnt F z) + 1)), (0, .ref (a 0))]) hx hb dX0_countRunning_22 hl (k := 2) rfl (k_inc _) (by decide) rfl (fun ls hl => ?_)
        refine lv_goto (tgt := 4) hx hb dX0_countRunning_25 (by decide) ?_
        exact ih (z + 1) (by omega) H locs hP hD hS ls (by rw [mCnt_t F z c1]; exact (lv_sub hl [2, 1, 0] rfl))
  exact lp 8 0 rfl H [] hP hD hS ls (lv_sub hl [2, 1, 0] rfl)

abbrev rmX2_requireWithin : Room := { frames := 0, cells := 0, slots := 0, locals := 0 }
set_option maxHeartbeats 4000000 in
set_option maxRecDepth 100000 in
/-- requireWithin lets pass -/
theorem c_X2_requireWithin (l : Launch) (D : va_G) (cI cZ cO cJ : ClassId) (v lo hi : Int32) (sz : Nat) (h1 : ¬ v < lo) (h2 : v ≤ hi) : kMv l yX2_requireWithin wsX2_requireWithin rmX2_requireWithin D (kT cI cZ cO cJ) [.int v, .int lo, .int hi] ([]) ([]) sz := by
  refine kEnter (cc := cX2_requireWithin) (maxL := 3) (ret := none) (by decide +kernel) rfl (Nat.le_of_ble_eq_true rfl) ?_
  intro p e s m below meth c args hx hb hr hml hts hown hlocks hin hK hN A hA9 Q hQ9 hP hD hsz hS hA ls hl
  have hl : lv_has ls 3 [(0, .int v), (1, .int lo), (2, .int hi)] := hl
  obtain ⟨H, hH9⟩ : ∃ H, H = s.heap := ⟨_, rfl⟩
  rw [← hH9] at hP ⊢
  have hS : va_S A s.heap H [] := by rw [hH9]; exact va_S.rf
  refine lv_iload_n hx hb dX2_requireWithin_0 rfl (lv_at hl 0 rfl) ?_
  refine lv_iload_n hx hb dX2_requireWithin_1 rfl (lv_at hl 1 rfl) ?_
  refine lv_icmp_lt (tgt := 10) hx hb dX2_requireWithin_2 (by decide) (fun c9 => absurd c9 h1) (fun _ => ?_)
  refine lv_iload_n hx hb dX2_requireWithin_5 rfl (lv_at hl 0 rfl) ?_
  refine lv_iload_n hx hb dX2_requireWithin_6 rfl (lv_at hl 2 rfl) ?_
  refine lv_icmp_le (tgt := 20) hx hb dX2_requireWithin_7 (by decide) (fun _ => ?_) (fun c9 => absurd h2 c9)
  subst hQ9
  subst hA9
  exact kRet_v hx hb hr hlocks hP hS dX2_requireWithin_20

abbrev rmX2_requireZone : Room := { frames := 1, cells := 0, slots := 0, locals := 22 }
set_option maxHeartbeats 4000000 in
set_option maxRecDepth 100000 in
/-- requireZone lets pass -/
theorem c_X2_requireZone (l : Launch) (D : va_G) (cI cZ cO cJ : ClassId) (v : Int32) (sz : Nat) (h1 : ¬ v < nI 0) (h2 : v ≤ nI 5) : kMv l yX2_requireZone wsX2_requireZone rmX2_requireZone D (kT cI cZ cO cJ) [.int v] ([]) ([]) sz := by
  refine kEnter (cc := cX2_requireZone) (maxL := 1) (ret := none) (by decide +kernel) rfl (Nat.le_of_ble_eq_true rfl) ?_
  intro p e s m below meth c args hx hb hr hml hts hown hlocks hin hK hN A hA9 Q hQ9 hP hD hsz hS hA ls hl
  have hl : lv_has ls 1 [(0, .int v)] := hl
  obtain ⟨H, hH9⟩ : ∃ H, H = s.heap := ⟨_, rfl⟩
  rw [← hH9] at hP ⊢
  have hS : va_S A s.heap H [] := by rw [hH9]; exact va_S.rf
  refine lv_iload_n hx hb dX2_requireZone_0 rfl (lv_at hl 0 rfl) ?_
  refine lv_iconst (v := nI 0) hx hb dX2_requireZone_1 (by decide +kernel) ?_
  refine lv_iconst (v := nI 5) hx hb dX2_requireZone_2 (by decide +kernel) ?_
  refine kCall_v (W0 := []) (W1 := []) hP hD hS hA [] rfl rfl (va_runS (As := [.int v, .int (nI 0), .int (nI 5)]) (rest := []) ⟨hx, hb, hml, hown, hts⟩ (c_X2_requireWithin l D cI cZ cO cJ v (nI 0) (nI 5) H.size h1 h2) (va_cwS (rm := rmX2_requireWithin) 3 hts gX2_requireZone_X2_requireWithin rfl rfl rfl (by decide +kernel) ⟨Nat.le_of_ble_eq_true rfl, Nat.le_of_ble_eq_true rfl⟩) (kPreS hK hN hP hD [] rfl rfl) rfl rfl hl.1 rfl (lv_room (Nat.le_of_ble_eq_true rfl)) dX2_requireZone_3 ⟨Nat.zero_le _, Nat.zero_le _⟩) (fun H locs hP hD hS => ?_)
  have hP : va_P D vwCl ([]) H := hP
  have hD : va_D A ([]) := hD
  subst hQ9
  subst hA9
  exact kRet_v hx hb hr hlocks hP hS dX2_requireZone_6

abbrev rmX2_requireFan : Room := { frames := 1, cells := 0, slots := 0, locals := 22 }
set_option maxHeartbeats 4000000 in
set_option maxRecDepth 100000 in
/-- requireFan lets pass -/
theorem c_X2_requireFan (l : Launch) (D : va_G) (cI cZ cO cJ : ClassId) (v : Int32) (sz : Nat) (h1 : ¬ v < nI 0) (h2 : v ≤ nI 7) : kMv l yX2_requireFan wsX2_requireFan rmX2_requireFan D (kT cI cZ cO cJ) [.int v] ([]) ([]) sz := by
  refine kEnter (cc := cX2_requireFan) (maxL := 1) (ret := none) (by decide +kernel) rfl (Nat.le_of_ble_eq_true rfl) ?_
  intro p e s m below meth c args hx hb hr hml hts hown hlocks hin hK hN A hA9 Q hQ9 hP hD hsz hS hA ls hl
  have hl : lv_has ls 1 [(0, .int v)] := hl
  obtain ⟨H, hH9⟩ : ∃ H, H = s.heap := ⟨_, rfl⟩
  rw [← hH9] at hP ⊢
  have hS : va_S A s.heap H [] := by rw [hH9]; exact va_S.rf
  refine lv_iload_n hx hb dX2_requireFan_0 rfl (lv_at hl 0 rfl) ?_
  refine lv_iconst (v := nI 0) hx hb dX2_requireFan_1 (by decide +kernel) ?_
  refine lv_bipush (v := nI 7) hx hb dX2_requireFan_2 (by decide +kernel) ?_
  refine kCall_v (W0 := []) (W1 := []) hP hD hS hA [] rfl rfl (va_runS (As := [.int v, .int (nI 0), .int (nI 7)]) (rest := []) ⟨hx, hb, hml, hown, hts⟩ (c_X2_requireWithin l D cI cZ cO cJ v (nI 0) (nI 7) H.size h1 h2) (va_cwS (rm := rmX2_requireWithin) 3 hts gX2_requireFan_X2_requireWithin rfl rfl rfl (by decide +kernel) ⟨Nat.le_of_ble_eq_true rfl, Nat.le_of_ble_eq_true rfl⟩) (kPreS hK hN hP hD [] rfl rfl) rfl rfl hl.1 rfl (lv_room (Nat.le_of_ble_eq_true rfl)) dX2_requireFan_4 ⟨Nat.zero_le _, Nat.zero_le _⟩) (fun H locs hP hD hS => ?_)
  have hP : va_P D vwCl ([]) H := hP
  have hD : va_D A ([]) := hD
  subst hQ9
  subst hA9
  exact kRet_v hx hb hr hlocks hP hS dX2_requireFan_7

abbrev rmX2_requireForecast : Room := { frames := 2, cells := 0, slots := 0, locals := 42 }
set_option maxHeartbeats 4000000 in
set_option maxRecDepth 100000 in
/-- requireForecast lets pass -/
theorem c_X2_requireForecast (l : Launch) (D : va_G) (cI cZ cO cJ : ClassId) (v w : Int32) (sz : Nat) (h1 : ¬ v < nI 0) (h2 : v ≤ nI 5) (h3 : ¬ w < nI 1) (h4 : w ≤ nI 60) : kMv l yX2_requireForecast wsX2_requireForecast rmX2_requireForecast D (kT cI cZ cO cJ) [.int v, .int w] ([]) ([]) sz := by
  refine kEnter (cc := cX2_requireForecast) (maxL := 2) (ret := none) (by decide +kernel) rfl (Nat.le_of_ble_eq_true rfl) ?_
  intro p e s m below meth c args hx hb hr hml hts hown hlocks hin hK hN A hA9 Q hQ9 hP hD hsz hS hA ls hl
  have hl : lv_has ls 2 [(0, .int v), (1, .int w)] := hl
  obtain ⟨H, hH9⟩ : ∃ H, H = s.heap := ⟨_, rfl⟩
  rw [← hH9] at hP ⊢
  have hS : va_S A s.heap H [] := by rw [hH9]; exact va_S.rf
  refine lv_iload_n hx hb dX2_requireForecast_0 rfl (lv_at hl 0 rfl) ?_
  refine kCall_v (W0 := []) (W1 := []) hP hD hS hA [] rfl rfl (va_runS (As := [.int v]) (rest := []) ⟨hx, hb, hml, hown, hts⟩ (c_X2_requireZone l D cI cZ cO cJ v H.size h1 h2) (va_cwS (rm := rmX2_requireZone) 1 hts gX2_requireForecast_X2_requireZone rfl rfl rfl (by decide +kernel) ⟨Nat.le_of_ble_eq_true rfl, Nat.le_of_ble_eq_true rfl⟩) (kPreS hK hN hP hD [] rfl rfl) rfl rfl hl.1 rfl (lv_room (Nat.le_of_ble_eq_true rfl)) dX2_requireForecast_1 ⟨Nat.zero_le _, Nat.zero_le _⟩) (fun H locs hP hD hS => ?_)
  have hP : va_P D vwCl ([]) H := hP
  have hD : va_D A ([]) := hD
  refine lv_iload_n hx hb dX2_requireForecast_4 rfl (lv_at hl 1 rfl) ?_
  refine lv_iconst (v := nI 1) hx hb dX2_requireForecast_5 (by decide +kernel) ?_
  refine lv_bipush (v := nI 60) hx hb dX2_requireForecast_6 (by decide +kernel) ?_
  refine kCall_v (W0 := []) (W1 := []) hP hD hS hA [] rfl rfl (va_runS (As := [.int w, .int (nI 1), .int (nI 60)]) (rest := []) ⟨hx, hb, hml, hown, hts⟩ (c_X2_requireWithin l D cI cZ cO cJ w (nI 1) (nI 60) H.size h3 h4) (va_cwS (rm := rmX2_requireWithin) 3 hts gX2_requireForecast_X2_requireWithin rfl rfl rfl (by decide +kernel) ⟨Nat.le_of_ble_eq_true rfl, Nat.le_of_ble_eq_true rfl⟩) (kPreS hK hN hP hD [] rfl rfl) rfl rfl hl.1 rfl (lv_room (Nat.le_of_ble_eq_true rfl)) dX2_requireForecast_8 ⟨Nat.zero_le _, Nat.zero_le _⟩) (fun H locs hP hD hS => ?_)
  have hP : va_P D vwCl ([]) H := hP
  have hD : va_D A ([]) := hD
  subst hQ9
  subst hA9
  exact kRet_v hx hb hr hlocks hP hS dX2_requireForecast_11

abbrev rmX2_setLoad : Room := { frames := 2, cells := 0, slots := 0, locals := 42 }
set_option maxHeartbeats 4000000 in
set_option maxRecDepth 100000 in
/-- setLoad -/
theorem c_X2_setLoad (l : Launch) (D : va_G) (cI cZ cO cJ : ClassId) (x a t b : Nat → Nat) (ck : Nat) (Ho T E Dm F S : Nat → Int32) (C : Nat → Nat → Int32) (la : Nat) (T1 E1 D1 F1 S1 : Nat → Int32) (C1 : Nat → Nat → Int32) (la1 : Nat) (Lo Se : Nat → Int32) (Ef : Nat → Nat → Int32) (gp gi am li : Int32) (dl : Nat) (z : Nat) (v : Int32) (sz : Nat) (hz : z < 6) (h1 : ¬ v < nI 0) (h2 : v ≤ nI 200) : kMi l yX2_setLoad wsX2_setLoad rmX2_setLoad D (kT cI cZ cO cJ) [.ref (x 0), .int (nI z), .int v] (wC cI cZ cO x a t b ck Ho T E Dm F S C la T1 E1 D1 F1 S1 C1 la1 Lo Se Ef gp gi am li dl) (wC cI cZ cO x a t b ck Ho T E Dm F S C la T1 E1 D1 F1 S1 C1 la1 (upd Lo z v) Se Ef gp gi am li dl) sz (Lo z) := by
  refine kEnter (cc := cX2_setLoad) (maxL := 4) (ret := some .int) (by decide +kernel) rfl (Nat.le_of_ble_eq_true rfl) ?_
  intro p e s m below meth c args hx hb hr hml hts hown hlocks hin hK hN A hA9 Q hQ9 hP hD hsz hS hA ls hl
  have hl : lv_has ls 4 [(0, .ref (x 0)), (1, .int (nI z)), (2, .int v)] := hl
  have hi_X2 : ∀ w ∈ u_ws RX2 TX2 5, w ∈ wsX2_setLoad := by decide +kernel
  have hi_X1 : ∀ w ∈ u_ws RX1 TX1 8, w ∈ wsX2_setLoad := by decide +kernel
  obtain ⟨H, hH9⟩ : ∃ H, H = s.heap := ⟨_, rfl⟩
  rw [← hH9] at hP ⊢
  have hS : va_S A s.heap H [] := by rw [hH9]; exact va_S.rf
  refine lv_iload_n hx hb dX2_setLoad_0 rfl (lv_at hl 1 rfl) ?_
  refine kCall_v (W0 := []) (W1 := []) hP hD hS hA [] rfl rfl (va_runS (As := [.int (nI z)]) (rest := []) ⟨hx, hb, hml, hown, hts⟩ (c_X2_requireZone l D cI cZ cO cJ (nI z) H.size (nI_nlt (by omega) (by omega)) (nI_le (by omega) (by decide))) (va_cwS (rm := rmX2_requireZone) 1 hts gX2_setLoad_X2_requireZone rfl rfl rfl (by decide +kernel) ⟨Nat.le_of_ble_eq_true rfl, Nat.le_of_ble_eq_true rfl⟩) (kPreS hK hN hP hD [] rfl rfl) rfl rfl hl.1 rfl (lv_room (Nat.le_of_ble_eq_true rfl)) dX2_setLoad_1 ⟨Nat.zero_le _, Nat.zero_le _⟩) (fun H locs hP hD hS => ?_)
  have hP : va_P D vwCl (wC cI cZ cO x a t b ck Ho T E Dm F S C la T1 E1 D1 F1 S1 C1 la1 Lo Se Ef gp gi am li dl) H := hP
  have hD : va_D A (wC cI cZ cO x a t b ck Ho T E Dm F S C la T1 E1 D1 F1 S1 C1 la1 Lo Se Ef gp gi am li dl) := hD
  refine lv_iload_n hx hb dX2_setLoad_4 rfl (lv_at hl 2 rfl) ?_
  refine lv_iconst (v := nI 0) hx hb dX2_setLoad_5 (by decide +kernel) ?_
  refine lv_sipush (v := nI 200) hx hb dX2_setLoad_6 (by decide +kernel) ?_
  refine kCall_v (W0 := []) (W1 := []) hP hD hS hA [] rfl rfl (va_runS (As := [.int v, .int (nI 0), .int (nI 200)]) (rest := []) ⟨hx, hb, hml, hown, hts⟩ (c_X2_requireWithin l D cI cZ cO cJ v (nI 0) (nI 200) H.size h1 h2) (va_cwS (rm := rmX2_requireWithin) 3 hts gX2_setLoad_X2_requireWithin rfl rfl rfl (by decide +kernel) ⟨Nat.le_of_ble_eq_true rfl, Nat.le_of_ble_eq_true rfl⟩) (kPreS hK hN hP hD [] rfl rfl) rfl rfl hl.1 rfl (lv_room (Nat.le_of_ble_eq_true rfl)) dX2_setLoad_9 ⟨Nat.zero_le _, Nat.zero_le _⟩) (fun H locs hP hD hS => ?_)
  have hP : va_P D vwCl (wC cI cZ cO x a t b ck Ho T E Dm F S C la T1 E1 D1 F1 S1 C1 la1 Lo Se Ef gp gi am li dl) H := hP
  have hD : va_D A (wC cI cZ cO x a t b ck Ho T E Dm F S C la T1 E1 D1 F1 S1 C1 la1 Lo Se Ef gp gi am li dl) := hD
  refine lv_aload_n hx hb dX2_setLoad_12 rfl (lv_at hl 0 rfl) ?_
  refine va_get (D := D) (ci := 2) (v := .ref (b 0)) (C := RX2) (T := TX2) (N := 5) hx hb hts hi_X2 hown hK hP 0 rfl rfl 0 (by decide) (hts (.fieldLink RX2 10 "Coldaisle" "settings" "LColdaisle$Settings;") (by decide +kernel)) (fun _ h9 => h9) rfl dX2_setLoad_13 ?_
  refine va_get (D := D) (ci := 1) (v := .ref (b 1)) (C := RX1) (T := TX1) (N := 8) hx hb hts hi_X1 hown hK hP 16 rfl rfl 0 (by decide) (hts (.fieldLink RX2 42 "Coldaisle$Settings" "load" "[I") (by decide +kernel)) (fun _ h9 => h9) rfl dX2_setLoad_16 ?_
  refine lv_iload_n hx hb dX2_setLoad_19 rfl (lv_at hl 1 rfl) ?_
  refine k_iald hx hb hK hP 17 0 rfl rfl (i := z) (by omega) (by decide) dX2_setLoad_20 ?_
  refine lv_istore_n (lv' := [(3, .int (Lo z)), (0, .ref (x 0)), (1, .int (nI z)), (2, .int v)]) hx hb dX2_setLoad_21 rfl hl (by decide) rfl (fun ls hl => ?_)
  refine lv_aload_n hx hb dX2_setLoad_22 rfl (lv_at hl 1 rfl) ?_
  refine va_get (D := D) (ci := 2) (v := .ref (b 0)) (C := RX2) (T := TX2) (N := 5) hx hb hts hi_X2 hown hK hP 0 rfl rfl 0 (by decide) (hts (.fieldLink RX2 10 "Coldaisle" "settings" "LColdaisle$Settings;") (by decide +kernel)) (fun _ h9 => h9) rfl dX2_setLoad_23 ?_
  refine va_get (D := D) (ci := 1) (v := .ref (b 1)) (C := RX1) (T := TX1) (N := 8) hx hb hts hi_X1 hown hK hP 16 rfl rfl 0 (by decide) (hts (.fieldLink RX2 42 "Coldaisle$Settings" "load" "[I") (by decide +kernel)) (fun _ h9 => h9) rfl dX2_setLoad_26 ?_
  refine lv_iload_n hx hb dX2_setLoad_29 rfl (lv_at hl 2 rfl) ?_
  refine lv_iload_n hx hb dX2_setLoad_30 rfl (lv_at hl 3 rfl) ?_
  refine k_iast hx hb hK hP hD hS 17 0 rfl rfl (i := z) (x := v) (by omega) (by decide) dX2_setLoad_31 (fun H locs hP hD hS => ?_)
  have hP : va_P D vwCl (wC cI cZ cO x a t b ck Ho T E Dm F S C la T1 E1 D1 F1 S1 C1 la1 (upd Lo z v) Se Ef gp gi am li dl) H := hP
  have hD : va_D A (wC cI cZ cO x a t b ck Ho T E Dm F S C la T1 E1 D1 F1 S1 C1 la1 (upd Lo z v) Se Ef gp gi am li dl) := hD
  refine lv_iload_n hx hb dX2_setLoad_32 rfl (lv_at hl 0 rfl) ?_
  subst hQ9
  subst hA9
  exact kRet_i hx hb hr hlocks hP hS dX2_setLoad_33 rfl

abbrev rmX2_setSetpoint : Room := { frames := 2, cells := 0, slots := 0, locals := 42 }
set_option maxHeartbeats 4000000 in
set_option maxRecDepth 100000 in
/-- setSetpoint -/
theorem c_X2_setSetpoint (l : Launch) (D : va_G) (cI cZ cO cJ : ClassId) (x a t b : Nat → Nat) (ck : Nat) (Ho T E Dm F S : Nat → Int32) (C : Nat → Nat → Int32) (la : Nat) (T1 E1 D1 F1 S1 : Nat → Int32) (C1 : Nat → Nat → Int32) (la1 : Nat) (Lo Se : Nat → Int32) (Ef : Nat → Nat → Int32) (gp gi am li : Int32) (dl : Nat) (z : Nat) (v : Int32) (sz : Nat) (hz : z < 6) (h1 : ¬ v < nI 1500) (h2 : v ≤ nI 3500) : kMi l yX2_setSetpoint wsX2_setSetpoint rmX2_setSetpoint D (kT cI cZ cO cJ) [.ref (x 0), .int (nI z), .int v] (wC cI cZ cO x a t b ck Ho T E Dm F S C la T1 E1 D1 F1 S1 C1 la1 Lo Se Ef gp gi am li dl) (wC cI cZ cO x a t b ck Ho T (upd E z (nI 0)) Dm F S C la T1 E1 D1 F1 S1 C1 la1 Lo (upd Se z v) Ef gp gi am li dl) sz (Se z) := by
  refine kEnter (cc := cX2_setSetpoint) (maxL := 4) (ret := some .int) (by decide +kernel) rfl (Nat.le_of_ble_eq_true rfl) ?_
  intro p e s m below meth c args hx hb hr hml hts hown hlocks hin hK hN A hA9 Q hQ9 hP hD hsz hS hA ls hl
  have hl : lv_has ls 4 [(0, .ref (x 0)), (1, .int (nI z)), (2, .int v)] := hl
  have hi_X2 : ∀ w ∈ u_ws RX2 TX2 5, w ∈ wsX2_setSetpoint := by decide +kernel
  have hi_X1 : ∀ w ∈ u_ws RX1 TX1 8, w ∈ wsX2_setSetpoint := by decide +kernel
  have hi_X0 : ∀ w ∈ u_ws RX0 TX0 7, w ∈ wsX2_setSetpoint := by decide +kernel
  obtain ⟨H, hH9⟩ : ∃ H, H = s.heap := ⟨_, rfl⟩
  rw [← hH9] at hP ⊢
  have hS : va_S A s.heap H [] := by rw [hH9]; exact va_S.rf
  refine lv_iload_n hx hb dX2_setSetpoint_0 rfl (lv_at hl 1 rfl) ?_
  refine kCall_v (W0 := []) (W1 := []) hP hD hS hA [] rfl rfl (va_runS (As := [.int (nI z)]) (rest := []) ⟨hx, hb, hml, hown, hts⟩ (c_X2_requireZone l D cI cZ cO cJ (nI z) H.size (nI_nlt (by omega) (by omega)) (nI_le (by omega) (by decide))) (va_cwS (rm := rmX2_requireZone) 1 hts gX2_setSetpoint_X2_requireZone rfl rfl rfl (by decide +kernel) ⟨Nat.le_of_ble_eq_true rfl, Nat.le_of_ble_eq_true rfl⟩) (kPreS hK hN hP hD [] rfl rfl) rfl rfl hl.1 rfl (lv_room (Nat.le_of_ble_eq_true rfl)) dX2_setSetpoint_1 ⟨Nat.zero_le _, Nat.zero_le _⟩) (fun H locs hP hD hS => ?_)
  have hP : va_P D vwCl (wC cI cZ cO x a t b ck Ho T E Dm F S C la T1 E1 D1 F1 S1 C1 la1 Lo Se Ef gp gi am li dl) H := hP
  have hD : va_D A (wC cI cZ cO x a t b ck Ho T E Dm F S C la T1 E1 D1 F1 S1 C1 la1 Lo Se Ef gp gi am li dl) := hD
  refine lv_iload_n hx hb dX2_setSetpoint_4 rfl (lv_at hl 2 rfl) ?_
  refine lv_sipush (v := nI 1500) hx hb dX2_setSetpoint_5 (by decide +kernel) ?_
  refine lv_sipush (v := nI 3500) hx hb dX2_setSetpoint_8 (by decide +kernel) ?_
  refine kCall_v (W0 := []) (W1 := []) hP hD hS hA [] rfl rfl (va_runS (As := [.int v, .int (nI 1500), .int (nI 3500)]) (rest := []) ⟨hx, hb, hml, hown, hts⟩ (c_X2_requireWithin l D cI cZ cO cJ v (nI 1500) (nI 3500) H.size h1 h2) (va_cwS (rm := rmX2_requireWithin) 3 hts gX2_setSetpoint_X2_requireWithin rfl rfl rfl (by decide +kernel) ⟨Nat.le_of_ble_eq_true rfl, Nat.le_of_ble_eq_true rfl⟩) (kPreS hK hN hP hD [] rfl rfl) rfl rfl hl.1 rfl (lv_room (Nat.le_of_ble_eq_true rfl)) dX2_setSetpoint_11 ⟨Nat.zero_le _, Nat.zero_le _⟩) (fun H locs hP hD hS => ?_)
  have hP : va_P D vwCl (wC cI cZ cO x a t b ck Ho T E Dm F S C la T1 E1 D1 F1 S1 C1 la1 Lo Se Ef gp gi am li dl) H := hP
  have hD : va_D A (wC cI cZ cO x a t b ck Ho T E Dm F S C la T1 E1 D1 F1 S1 C1 la1 Lo Se Ef gp gi am li dl) := hD
  refine lv_aload_n hx hb dX2_setSetpoint_14 rfl (lv_at hl 0 rfl) ?_
  refine va_get (D := D) (ci := 2) (v := .ref (b 0)) (C := RX2) (T := TX2) (N := 5) hx hb hts hi_X2 hown hK hP 0 rfl rfl 0 (by decide) (hts (.fieldLink RX2 10 "Coldaisle" "settings" "LColdaisle$Settings;") (by decide +kernel)) (fun _ h9 => h9) rfl dX2_setSetpoint_15 ?_
  refine va_get (D := D) (ci := 1) (v := .ref (b 2)) (C := RX1) (T := TX1) (N := 8) hx hb hts hi_X1 hown hK hP 16 rfl rfl 1 (by decide) (hts (.fieldLink RX2 45 "Coldaisle$Settings" "setpoint" "[I") (by decide +kernel)) (fun _ h9 => h9) rfl dX2_setSetpoint_18 ?_
  refine lv_iload_n hx hb dX2_setSetpoint_21 rfl (lv_at hl 1 rfl) ?_
  refine k_iald hx hb hK hP 18 0 rfl rfl (i := z) (by omega) (by decide) dX2_setSetpoint_22 ?_
  refine lv_istore_n (lv' := [(3, .int (Se z)), (0, .ref (x 0)), (1, .int (nI z)), (2, .int v)]) hx hb dX2_setSetpoint_23 rfl hl (by decide) rfl (fun ls hl => ?_)
  refine lv_aload_n hx hb dX2_setSetpoint_24 rfl (lv_at hl 1 rfl) ?_
  refine va_get (D := D) (ci := 2) (v := .ref (b 0)) (C := RX2) (T := TX2) (N := 5) hx hb hts hi_X2 hown hK hP 0 rfl rfl 0 (by decide) (hts (.fieldLink RX2 10 "Coldaisle" "settings" "LColdaisle$Settings;") (by decide +kernel)) (fun _ h9 => h9) rfl dX2_setSetpoint_25 ?_
  refine va_get (D := D) (ci := 1) (v := .ref (b 2)) (C := RX1) (T := TX1) (N := 8) hx hb hts hi_X1 hown hK hP 16 rfl rfl 1 (by decide) (hts (.fieldLink RX2 45 "Coldaisle$Settings" "setpoint" "[I") (by decide +kernel)) (fun _ h9 => h9) rfl dX2_setSetpoint_28 ?_
  refine lv_iload_n hx hb dX2_setSetpoint_31 rfl (lv_at hl 2 rfl) ?_
  refine lv_iload_n hx hb dX2_setSetpoint_32 rfl (lv_at hl 3 rfl) ?_
  refine k_iast hx hb hK hP hD hS 18 0 rfl rfl (i := z) (x := v) (by omega) (by decide) dX2_setSetpoint_33 (fun H locs hP hD hS => ?_)
  have hP : va_P D vwCl (wC cI cZ cO x a t b ck Ho T E Dm F S C la T1 E1 D1 F1 S1 C1 la1 Lo (upd Se z v) Ef gp gi am li dl) H := hP
  have hD : va_D A (wC cI cZ cO x a t b ck Ho T E Dm F S C la T1 E1 D1 F1 S1 C1 la1 Lo (upd Se z v) Ef gp gi am li dl) := hD
  refine lv_aload_n hx hb dX2_setSetpoint_34 rfl (lv_at hl 1 rfl) ?_
  refine va_get (D := D) (ci := 2) (v := .ref (a 0)) (C := RX2) (T := TX2) (N := 5) hx hb hts hi_X2 hown hK hP 0 rfl rfl 1 (by decide) (hts (.fieldLink RX2 19 "Coldaisle" "hall" "LColdaisle$Hall;") (by decide +kernel)) (fun _ h9 => h9) rfl dX2_setSetpoint_35 ?_
  refine va_get (D := D) (ci := 0) (v := .ref (a 2)) (C := RX0) (T := TX0) (N := 7) hx hb hts hi_X0 hown hK hP 2 rfl rfl 1 (by decide) (hts (.fieldLink RX2 48 "Coldaisle$Hall" "errors" "[I") (by decide +kernel)) (fun _ h9 => h9) rfl dX2_setSetpoint_38 ?_
  refine lv_iload_n hx hb dX2_setSetpoint_41 rfl (lv_at hl 2 rfl) ?_
  refine lv_iconst (v := nI 0) hx hb dX2_setSetpoint_42 (by decide +kernel) ?_
  refine k_iast hx hb hK hP hD hS 4 0 rfl rfl (i := z) (x := nI 0) (by omega) (by decide) dX2_setSetpoint_43 (fun H locs hP hD hS => ?_)
  have hP : va_P D vwCl (wC cI cZ cO x a t b ck Ho T (upd E z (nI 0)) Dm F S C la T1 E1 D1 F1 S1 C1 la1 Lo (upd Se z v) Ef gp gi am li dl) H := hP
  have hD : va_D A (wC cI cZ cO x a t b ck Ho T (upd E z (nI 0)) Dm F S C la T1 E1 D1 F1 S1 C1 la1 Lo (upd Se z v) Ef gp gi am li dl) := hD
  refine lv_iload_n hx hb dX2_setSetpoint_44 rfl (lv_at hl 0 rfl) ?_
  subst hQ9
  subst hA9
  exact kRet_i hx hb hr hlocks hP hS dX2_setSetpoint_45 rfl

abbrev rmX2_setEffect : Room := { frames := 2, cells := 0, slots := 0, locals := 42 }
set_option maxHeartbeats 4000000 in
set_option maxRecDepth 100000 in
/-- setEffect -/
theorem c_X2_setEffect (l : Launch) (D : va_G) (cI cZ cO cJ : ClassId) (x a t b : Nat → Nat) (ck : Nat) (Ho T E Dm F S : Nat → Int32) (C : Nat → Nat → Int32) (la : Nat) (T1 E1 D1 F1 S1 : Nat → Int32) (C1 : Nat → Nat → Int32) (la1 : Nat) (Lo Se : Nat → Int32) (Ef : Nat → Nat → Int32) (gp gi am li : Int32) (dl : Nat) (f z : Nat) (v : Int32) (sz : Nat) (hf : f < 8) (hz : z < 6) (h1 : ¬ v < nI 0) (h2 : v ≤ nI 100) : kMi l yX2_setEffect wsX2_setEffect rmX2_setEffect D (kT cI cZ cO cJ) [.ref (x 0), .int (nI f), .int (nI z), .int v] (wC cI cZ cO x a t b ck Ho T E Dm F S C la T1 E1 D1 F1 S1 C1 la1 Lo Se Ef gp gi am li dl) (wC cI cZ cO x a t b ck Ho T E Dm F S C la T1 E1 D1 F1 S1 C1 la1 Lo Se (va_up Ef f (upd (Ef f) z v)) gp gi am li dl) sz (Ef f z) := by
  refine kEnter (cc := cX2_setEffect) (maxL := 5) (ret := some .int) (by decide +kernel) rfl (Nat.le_of_ble_eq_true rfl) ?_
  intro p e s m below meth c args hx hb hr hml hts hown hlocks hin hK hN A hA9 Q hQ9 hP hD hsz hS hA ls hl
  have hl : lv_has ls 5 [(0, .ref (x 0)), (1, .int (nI f)), (2, .int (nI z)), (3, .int v)] := hl
  have hi_X2 : ∀ w ∈ u_ws RX2 TX2 5, w ∈ wsX2_setEffect := by decide +kernel
  have hi_X1 : ∀ w ∈ u_ws RX1 TX1 8, w ∈ wsX2_setEffect := by decide +kernel
  obtain ⟨H, hH9⟩ : ∃ H, H = s.heap := ⟨_, rfl⟩
  rw [← hH9] at hP ⊢
  have hS : va_S A s.heap H [] := by rw [hH9]; exact va_S.rf
  refine lv_iload_n hx hb dX2_setEffect_0 rfl (lv_at hl 1 rfl) ?_
  refine kCall_v (W0 := []) (W1 := []) hP hD hS hA [] rfl rfl (va_runS (As := [.int (nI f)]) (rest := []) ⟨hx, hb, hml, hown, hts⟩ (c_X2_requireFan l D cI cZ cO cJ (nI f) H.size (nI_nlt (by omega) (by omega)) (nI_le (by omega) (by decide))) (va_cwS (rm := rmX2_requireFan) 1 hts gX2_setEffect_X2_requireFan rfl rfl rfl (by decide +kernel) ⟨Nat.le_of_ble_eq_true rfl, Nat.le_of_ble_eq_true rfl⟩) (kPreS hK hN hP hD [] rfl rfl) rfl rfl hl.1 rfl (lv_room (Nat.le_of_ble_eq_true rfl)) dX2_setEffect_1 ⟨Nat.zero_le _, Nat.zero_le _⟩) (fun H locs hP hD hS => ?_)
  have hP : va_P D vwCl (wC cI cZ cO x a t b ck Ho T E Dm F S C la T1 E1 D1 F1 S1 C1 la1 Lo Se Ef gp gi am li dl) H := hP
  have hD : va_D A (wC cI cZ cO x a t b ck Ho T E Dm F S C la T1 E1 D1 F1 S1 C1 la1 Lo Se Ef gp gi am li dl) := hD
  refine lv_iload_n hx hb dX2_setEffect_4 rfl (lv_at hl 2 rfl) ?_
  refine kCall_v (W0 := []) (W1 := []) hP hD hS hA [] rfl rfl (va_runS (As := [.int (nI z)]) (rest := []) ⟨hx, hb, hml, hown, hts⟩ (c_X2_requireZone l D cI cZ cO cJ (nI z) H.size (nI_nlt (by omega) (by omega)) (nI_le (by omega) (by decide))) (va_cwS (rm := rmX2_requireZone) 1 hts gX2_setEffect_X2_requireZone rfl rfl rfl (by decide +kernel) ⟨Nat.le_of_ble_eq_true rfl, Nat.le_of_ble_eq_true rfl⟩) (kPreS hK hN hP hD [] rfl rfl) rfl rfl hl.1 rfl (lv_room (Nat.le_of_ble_eq_true rfl)) dX2_setEffect_5 ⟨Nat.zero_le _, Nat.zero_le _⟩) (fun H locs hP hD hS => ?_)
  have hP : va_P D vwCl (wC cI cZ cO x a t b ck Ho T E Dm F S C la T1 E1 D1 F1 S1 C1 la1 Lo Se Ef gp gi am li dl) H := hP
  have hD : va_D A (wC cI cZ cO x a t b ck Ho T E Dm F S C la T1 E1 D1 F1 S1 C1 la1 Lo Se Ef gp gi am li dl) := hD
  refine lv_iload_n hx hb dX2_setEffect_8 rfl (lv_at hl 3 rfl) ?_
  refine lv_iconst (v := nI 0) hx hb dX2_setEffect_9 (by decide +kernel) ?_
  refine lv_bipush (v := nI 100) hx hb dX2_setEffect_10 (by decide +kernel) ?_
  refine kCall_v (W0 := []) (W1 := []) hP hD hS hA [] rfl rfl (va_runS (As := [.int v, .int (nI 0), .int (nI 100)]) (rest := []) ⟨hx, hb, hml, hown, hts⟩ (c_X2_requireWithin l D cI cZ cO cJ v (nI 0) (nI 100) H.size h1 h2) (va_cwS (rm := rmX2_requireWithin) 3 hts gX2_setEffect_X2_requireWithin rfl rfl rfl (by decide +kernel) ⟨Nat.le_of_ble_eq_true rfl, Nat.le_of_ble_eq_true rfl⟩) (kPreS hK hN hP hD [] rfl rfl) rfl rfl hl.1 rfl (lv_room (Nat.le_of_ble_eq_true rfl)) dX2_setEffect_12 ⟨Nat.zero_le _, Nat.zero_le _⟩) (fun H locs hP hD hS => ?_)
  have hP : va_P D vwCl (wC cI cZ cO x a t b ck Ho T E Dm F S C la T1 E1 D1 F1 S1 C1 la1 Lo Se Ef gp gi am li dl) H := hP
  have hD : va_D A (wC cI cZ cO x a t b ck Ho T E Dm F S C la T1 E1 D1 F1 S1 C1 la1 Lo Se Ef gp gi am li dl) := hD
  refine lv_aload_n hx hb dX2_setEffect_15 rfl (lv_at hl 0 rfl) ?_
  refine va_get (D := D) (ci := 2) (v := .ref (b 0)) (C := RX2) (T := TX2) (N := 5) hx hb hts hi_X2 hown hK hP 0 rfl rfl 0 (by decide) (hts (.fieldLink RX2 10 "Coldaisle" "settings" "LColdaisle$Settings;") (by decide +kernel)) (fun _ h9 => h9) rfl dX2_setEffect_16 ?_
  refine va_get (D := D) (ci := 1) (v := .ref (b 3)) (C := RX1) (T := TX1) (N := 8) hx hb hts hi_X1 hown hK hP 16 rfl rfl 2 (by decide) (hts (.fieldLink RX2 54 "Coldaisle$Settings" "effect" "[[I") (by decide +kernel)) (fun _ h9 => h9) rfl dX2_setEffect_19 ?_
  refine lv_iload_n hx hb dX2_setEffect_22 rfl (lv_at hl 1 rfl) ?_
  refine k_aald hx hb hK hP 19 2 rfl rfl (i := f) (by omega) (by decide) dX2_setEffect_23 ?_
  refine lv_iload_n hx hb dX2_setEffect_24 rfl (lv_at hl 2 rfl) ?_
  refine k_iald hx hb hK hP _ 0 (wC_eff (j := f) (by omega)) rfl (i := z) (by omega) (by decide) dX2_setEffect_25 ?_
  refine lv_istore (lv' := [(4, .int ((Ef f) z)), (0, .ref (x 0)), (1, .int (nI f)), (2, .int (nI z)), (3, .int v)]) hx hb dX2_setEffect_26 hl (by decide) rfl (fun ls hl => ?_)
  refine lv_aload_n hx hb dX2_setEffect_28 rfl (lv_at hl 1 rfl) ?_
  refine va_get (D := D) (ci := 2) (v := .ref (b 0)) (C := RX2) (T := TX2) (N := 5) hx hb hts hi_X2 hown hK hP 0 rfl rfl 0 (by decide) (hts (.fieldLink RX2 10 "Coldaisle" "settings" "LColdaisle$Settings;") (by decide +kernel)) (fun _ h9 => h9) rfl dX2_setEffect_29 ?_
  refine va_get (D := D) (ci := 1) (v := .ref (b 3)) (C := RX1) (T := TX1) (N := 8) hx hb hts hi_X1 hown hK hP 16 rfl rfl 2 (by decide) (hts (.fieldLink RX2 54 "Coldaisle$Settings" "effect" "[[I") (by decide +kernel)) (fun _ h9 => h9) rfl dX2_setEffect_32 ?_
  refine lv_iload_n hx hb dX2_setEffect_35 rfl (lv_at hl 2 rfl) ?_
  refine k_aald hx hb hK hP 19 2 rfl rfl (i := f) (by omega) (by decide) dX2_setEffect_36 ?_
  refine lv_iload_n hx hb dX2_setEffect_37 rfl (lv_at hl 3 rfl) ?_
  refine lv_iload_n hx hb dX2_setEffect_38 rfl (lv_at hl 4 rfl) ?_
  refine k_iast hx hb hK hP hD hS _ 0 (wC_eff (j := f) (by omega)) rfl (i := z) (x := v) (by omega) (by decide) dX2_setEffect_39 (fun H locs hP hD hS => ?_)
  have hP : va_P D vwCl (wC cI cZ cO x a t b ck Ho T E Dm F S C la T1 E1 D1 F1 S1 C1 la1 Lo Se (va_up Ef f (upd (Ef f) z v)) gp gi am li dl) H := (by have h := hP; rw [wC_eff_set (j := f) (by omega)] at h; exact h)
  have hD : va_D A (wC cI cZ cO x a t b ck Ho T E Dm F S C la T1 E1 D1 F1 S1 C1 la1 Lo Se (va_up Ef f (upd (Ef f) z v)) gp gi am li dl) := (by have h := hD; rw [wC_eff_set (j := f) (by omega)] at h; exact h)
  refine lv_iload hx hb dX2_setEffect_40 (lv_at hl 0 rfl) ?_
  subst hQ9
  subst hA9
  exact kRet_i hx hb hr hlocks hP hS dX2_setEffect_42 rfl

abbrev rmX2_setGains : Room := { frames := 1, cells := 0, slots := 0, locals := 22 }
set_option maxHeartbeats 4000000 in
set_option maxRecDepth 100000 in
/-- setGains -/
theorem c_X2_setGains (l : Launch) (D : va_G) (cI cZ cO cJ : ClassId) (x a t b : Nat → Nat) (ck : Nat) (Ho T E Dm F S : Nat → Int32) (C : Nat → Nat → Int32) (la : Nat) (T1 E1 D1 F1 S1 : Nat → Int32) (C1 : Nat → Nat → Int32) (la1 : Nat) (Lo Se : Nat → Int32) (Ef : Nat → Nat → Int32) (gp gi am li : Int32) (dl : Nat) (v w : Int32) (sz : Nat) (h1 : ¬ v < nI 0) (h2 : v ≤ nI 200) (h3 : ¬ w < nI 0) (h4 : w ≤ nI 200) : kMv l yX2_setGains wsX2_setGains rmX2_setGains D (kT cI cZ cO cJ) [.ref (x 0), .int v, .int w] (wC cI cZ cO x a t b ck Ho T E Dm F S C la T1 E1 D1 F1 S1 C1 la1 Lo Se Ef gp gi am li dl) (wC cI cZ cO x a t b ck Ho T E Dm F S C la T1 E1 D1 F1 S1 C1 la1 Lo Se Ef v w am li dl) sz := by
  refine kEnter (cc := cX2_setGains) (maxL := 3) (ret := none) (by decide +kernel) rfl (Nat.le_of_ble_eq_true rfl) ?_
  intro p e s m below meth c args hx hb hr hml hts hown hlocks hin hK hN A hA9 Q hQ9 hP hD hsz hS hA ls hl
  have hl : lv_has ls 3 [(0, .ref (x 0)), (1, .int v), (2, .int w)] := hl
  have hi_X2 : ∀ w ∈ u_ws RX2 TX2 5, w ∈ wsX2_setGains := by decide +kernel
  have hi_X1 : ∀ w ∈ u_ws RX1 TX1 8, w ∈ wsX2_setGains := by decide +kernel
  obtain ⟨H, hH9⟩ : ∃ H, H = s.heap := ⟨_, rfl⟩
  rw [← hH9] at hP ⊢
  have hS : va_S A s.heap H [] := by rw [hH9]; exact va_S.rf
  refine lv_iload_n hx hb dX2_setGains_0 rfl (lv_at hl 1 rfl) ?_
  refine lv_iconst (v := nI 0) hx hb dX2_setGains_1 (by decide +kernel) ?_
  refine lv_sipush (v := nI 200) hx hb dX2_setGains_2 (by decide +kernel) ?_
  refine kCall_v (W0 := []) (W1 := []) hP hD hS hA [] rfl rfl (va_runS (As := [.int v, .int (nI 0), .int (nI 200)]) (rest := []) ⟨hx, hb, hml, hown, hts⟩ (c_X2_requireWithin l D cI cZ cO cJ v (nI 0) (nI 200) H.size h1 h2) (va_cwS (rm := rmX2_requireWithin) 3 hts gX2_setGains_X2_requireWithin rfl rfl rfl (by decide +kernel) ⟨Nat.le_of_ble_eq_true rfl, Nat.le_of_ble_eq_true rfl⟩) (kPreS hK hN hP hD [] rfl rfl) rfl rfl hl.1 rfl (lv_room (Nat.le_of_ble_eq_true rfl)) dX2_setGains_5 ⟨Nat.zero_le _, Nat.zero_le _⟩) (fun H locs hP hD hS => ?_)
  have hP : va_P D vwCl (wC cI cZ cO x a t b ck Ho T E Dm F S C la T1 E1 D1 F1 S1 C1 la1 Lo Se Ef gp gi am li dl) H := hP
  have hD : va_D A (wC cI cZ cO x a t b ck Ho T E Dm F S C la T1 E1 D1 F1 S1 C1 la1 Lo Se Ef gp gi am li dl) := hD
  refine lv_iload_n hx hb dX2_setGains_8 rfl (lv_at hl 2 rfl) ?_
  refine lv_iconst (v := nI 0) hx hb dX2_setGains_9 (by decide +kernel) ?_
  refine lv_sipush (v := nI 200) hx hb dX2_setGains_10 (by decide +kernel) ?_
  refine kCall_v (W0 := []) (W1 := []) hP hD hS hA [] rfl rfl (va_runS (As := [.int w, .int (nI 0), .int (nI 200)]) (rest := []) ⟨hx, hb, hml, hown, hts⟩ (c_X2_requireWithin l D cI cZ cO cJ w (nI 0) (nI 200) H.size h3 h4) (va_cwS (rm := rmX2_requireWithin) 3 hts gX2_setGains_X2_requireWithin rfl rfl rfl (by decide +kernel) ⟨Nat.le_of_ble_eq_true rfl, Nat.le_of_ble_eq_true rfl⟩) (kPreS hK hN hP hD [] rfl rfl) rfl rfl hl.1 rfl (lv_room (Nat.le_of_ble_eq_true rfl)) dX2_setGains_13 ⟨Nat.zero_le _, Nat.zero_le _⟩) (fun H locs hP hD hS => ?_)
  have hP : va_P D vwCl (wC cI cZ cO x a t b ck Ho T E Dm F S C la T1 E1 D1 F1 S1 C1 la1 Lo Se Ef gp gi am li dl) H := hP
  have hD : va_D A (wC cI cZ cO x a t b ck Ho T E Dm F S C la T1 E1 D1 F1 S1 C1 la1 Lo Se Ef gp gi am li dl) := hD
  refine lv_aload_n hx hb dX2_setGains_16 rfl (lv_at hl 0 rfl) ?_
  refine va_get (D := D) (ci := 2) (v := .ref (b 0)) (C := RX2) (T := TX2) (N := 5) hx hb hts hi_X2 hown hK hP 0 rfl rfl 0 (by decide) (hts (.fieldLink RX2 10 "Coldaisle" "settings" "LColdaisle$Settings;") (by decide +kernel)) (fun _ h9 => h9) rfl dX2_setGains_17 ?_
  refine lv_iload_n hx hb dX2_setGains_20 rfl (lv_at hl 1 rfl) ?_
  refine va_put (D := D) (ci := 1) (v := .int v) (ty := tyX1 3) (C := RX1) (T := TX1) (N := 8) hx hb hts hi_X1 tyX1 tyX1_ok nmX1 hown hK hP hD hS 16 rfl rfl 3 (by decide) (hts (.fieldLink RX2 58 "Coldaisle$Settings" "proportional" "I") (by decide +kernel)) (fun _ h9 => h9) rfl (by decide +kernel) rfl rfl (Nat.le_of_ble_eq_true rfl) dX2_setGains_21 (fun H locs hP hD hS => ?_)
  have hP : va_P D vwCl (wC cI cZ cO x a t b ck Ho T E Dm F S C la T1 E1 D1 F1 S1 C1 la1 Lo Se Ef v gi am li dl) H := hP
  have hD : va_D A (wC cI cZ cO x a t b ck Ho T E Dm F S C la T1 E1 D1 F1 S1 C1 la1 Lo Se Ef v gi am li dl) := hD
  refine lv_aload_n hx hb dX2_setGains_24 rfl (lv_at hl 0 rfl) ?_
  refine va_get (D := D) (ci := 2) (v := .ref (b 0)) (C := RX2) (T := TX2) (N := 5) hx hb hts hi_X2 hown hK hP 0 rfl rfl 0 (by decide) (hts (.fieldLink RX2 10 "Coldaisle" "settings" "LColdaisle$Settings;") (by decide +kernel)) (fun _ h9 => h9) rfl dX2_setGains_25 ?_
  refine lv_iload_n hx hb dX2_setGains_28 rfl (lv_at hl 2 rfl) ?_
  refine va_put (D := D) (ci := 1) (v := .int w) (ty := tyX1 4) (C := RX1) (T := TX1) (N := 8) hx hb hts hi_X1 tyX1 tyX1_ok nmX1 hown hK hP hD hS 16 rfl rfl 4 (by decide) (hts (.fieldLink RX2 61 "Coldaisle$Settings" "integral" "I") (by decide +kernel)) (fun _ h9 => h9) rfl (by decide +kernel) rfl rfl (Nat.le_of_ble_eq_true rfl) dX2_setGains_29 (fun H locs hP hD hS => ?_)
  have hP : va_P D vwCl (wC cI cZ cO x a t b ck Ho T E Dm F S C la T1 E1 D1 F1 S1 C1 la1 Lo Se Ef v w am li dl) H := hP
  have hD : va_D A (wC cI cZ cO x a t b ck Ho T E Dm F S C la T1 E1 D1 F1 S1 C1 la1 Lo Se Ef v w am li dl) := hD
  subst hQ9
  subst hA9
  exact kRet_v hx hb hr hlocks hP hS dX2_setGains_32

abbrev rmX2_setHall : Room := { frames := 1, cells := 0, slots := 0, locals := 22 }
set_option maxHeartbeats 4000000 in
set_option maxRecDepth 100000 in
/-- setHall -/
theorem c_X2_setHall (l : Launch) (D : va_G) (cI cZ cO cJ : ClassId) (x a t b : Nat → Nat) (ck : Nat) (Ho T E Dm F S : Nat → Int32) (C : Nat → Nat → Int32) (la : Nat) (T1 E1 D1 F1 S1 : Nat → Int32) (C1 : Nat → Nat → Int32) (la1 : Nat) (Lo Se : Nat → Int32) (Ef : Nat → Nat → Int32) (gp gi am li : Int32) (dl : Nat) (v w : Int32) (sz : Nat) (h1 : ¬ v < nI 1000) (h2 : v ≤ nI 5000) (h3 : ¬ w < nI 1000) (h4 : w ≤ nI 5000) : kMv l yX2_setHall wsX2_setHall rmX2_setHall D (kT cI cZ cO cJ) [.ref (x 0), .int v, .int w] (wC cI cZ cO x a t b ck Ho T E Dm F S C la T1 E1 D1 F1 S1 C1 la1 Lo Se Ef gp gi am li dl) (wC cI cZ cO x a t b ck Ho T E Dm F S C la T1 E1 D1 F1 S1 C1 la1 Lo Se Ef gp gi v w dl) sz := by
  refine kEnter (cc := cX2_setHall) (maxL := 3) (ret := none) (by decide +kernel) rfl (Nat.le_of_ble_eq_true rfl) ?_
  intro p e s m below meth c args hx hb hr hml hts hown hlocks hin hK hN A hA9 Q hQ9 hP hD hsz hS hA ls hl
  have hl : lv_has ls 3 [(0, .ref (x 0)), (1, .int v), (2, .int w)] := hl
  have hi_X2 : ∀ w ∈ u_ws RX2 TX2 5, w ∈ wsX2_setHall := by decide +kernel
  have hi_X1 : ∀ w ∈ u_ws RX1 TX1 8, w ∈ wsX2_setHall := by decide +kernel
  obtain ⟨H, hH9⟩ : ∃ H, H = s.heap := ⟨_, rfl⟩
  rw [← hH9] at hP ⊢
  have hS : va_S A s.heap H [] := by rw [hH9]; exact va_S.rf
  refine lv_iload_n hx hb dX2_setHall_0 rfl (lv_at hl 1 rfl) ?_
  refine lv_sipush (v := nI 1000) hx hb dX2_setHall_1 (by decide +kernel) ?_
  refine lv_sipush (v := nI 5000) hx hb dX2_setHall_4 (by decide +kernel) ?_
  refine kCall_v (W0 := []) (W1 := []) hP hD hS hA [] rfl rfl (va_runS (As := [.int v, .int (nI 1000), .int (nI 5000)]) (rest := []) ⟨hx, hb, hml, hown, hts⟩ (c_X2_requireWithin l D cI cZ cO cJ v (nI 1000) (nI 5000) H.size h1 h2) (va_cwS (rm := rmX2_requireWithin) 3 hts gX2_setHall_X2_requireWithin rfl rfl rfl (by decide +kernel) ⟨Nat.le_of_ble_eq_true rfl, Nat.le_of_ble_eq_true rfl⟩) (kPreS hK hN hP hD [] rfl rfl) rfl rfl hl.1 rfl (lv_room (Nat.le_of_ble_eq_true rfl)) dX2_setHall_7 ⟨Nat.zero_le _, Nat.zero_le _⟩) (fun H locs hP hD hS => ?_)
  have hP : va_P D vwCl (wC cI cZ cO x a t b ck Ho T E Dm F S C la T1 E1 D1 F1 S1 C1 la1 Lo Se Ef gp gi am li dl) H := hP
  have hD : va_D A (wC cI cZ cO x a t b ck Ho T E Dm F S C la T1 E1 D1 F1 S1 C1 la1 Lo Se Ef gp gi am li dl) := hD
  refine lv_iload_n hx hb dX2_setHall_10 rfl (lv_at hl 2 rfl) ?_
  refine lv_sipush (v := nI 1000) hx hb dX2_setHall_11 (by decide +kernel) ?_
  refine lv_sipush (v := nI 5000) hx hb dX2_setHall_14 (by decide +kernel) ?_
  refine kCall_v (W0 := []) (W1 := []) hP hD hS hA [] rfl rfl (va_runS (As := [.int w, .int (nI 1000), .int (nI 5000)]) (rest := []) ⟨hx, hb, hml, hown, hts⟩ (c_X2_requireWithin l D cI cZ cO cJ w (nI 1000) (nI 5000) H.size h3 h4) (va_cwS (rm := rmX2_requireWithin) 3 hts gX2_setHall_X2_requireWithin rfl rfl rfl (by decide +kernel) ⟨Nat.le_of_ble_eq_true rfl, Nat.le_of_ble_eq_true rfl⟩) (kPreS hK hN hP hD [] rfl rfl) rfl rfl hl.1 rfl (lv_room (Nat.le_of_ble_eq_true rfl)) dX2_setHall_17 ⟨Nat.zero_le _, Nat.zero_le _⟩) (fun H locs hP hD hS => ?_)
  have hP : va_P D vwCl (wC cI cZ cO x a t b ck Ho T E Dm F S C la T1 E1 D1 F1 S1 C1 la1 Lo Se Ef gp gi am li dl) H := hP
  have hD : va_D A (wC cI cZ cO x a t b ck Ho T E Dm F S C la T1 E1 D1 F1 S1 C1 la1 Lo Se Ef gp gi am li dl) := hD
  refine lv_aload_n hx hb dX2_setHall_20 rfl (lv_at hl 0 rfl) ?_
  refine va_get (D := D) (ci := 2) (v := .ref (b 0)) (C := RX2) (T := TX2) (N := 5) hx hb hts hi_X2 hown hK hP 0 rfl rfl 0 (by decide) (hts (.fieldLink RX2 10 "Coldaisle" "settings" "LColdaisle$Settings;") (by decide +kernel)) (fun _ h9 => h9) rfl dX2_setHall_21 ?_
  refine lv_iload_n hx hb dX2_setHall_24 rfl (lv_at hl 1 rfl) ?_
  refine va_put (D := D) (ci := 1) (v := .int v) (ty := tyX1 5) (C := RX1) (T := TX1) (N := 8) hx hb hts hi_X1 tyX1 tyX1_ok nmX1 hown hK hP hD hS 16 rfl rfl 5 (by decide) (hts (.fieldLink RX2 64 "Coldaisle$Settings" "ambient" "I") (by decide +kernel)) (fun _ h9 => h9) rfl (by decide +kernel) rfl rfl (Nat.le_of_ble_eq_true rfl) dX2_setHall_25 (fun H locs hP hD hS => ?_)
  have hP : va_P D vwCl (wC cI cZ cO x a t b ck Ho T E Dm F S C la T1 E1 D1 F1 S1 C1 la1 Lo Se Ef gp gi v li dl) H := hP
  have hD : va_D A (wC cI cZ cO x a t b ck Ho T E Dm F S C la T1 E1 D1 F1 S1 C1 la1 Lo Se Ef gp gi v li dl) := hD
  refine lv_aload_n hx hb dX2_setHall_28 rfl (lv_at hl 0 rfl) ?_
  refine va_get (D := D) (ci := 2) (v := .ref (b 0)) (C := RX2) (T := TX2) (N := 5) hx hb hts hi_X2 hown hK hP 0 rfl rfl 0 (by decide) (hts (.fieldLink RX2 10 "Coldaisle" "settings" "LColdaisle$Settings;") (by decide +kernel)) (fun _ h9 => h9) rfl dX2_setHall_29 ?_
  refine lv_iload_n hx hb dX2_setHall_32 rfl (lv_at hl 2 rfl) ?_
  refine va_put (D := D) (ci := 1) (v := .int w) (ty := tyX1 6) (C := RX1) (T := TX1) (N := 8) hx hb hts hi_X1 tyX1 tyX1_ok nmX1 hown hK hP hD hS 16 rfl rfl 6 (by decide) (hts (.fieldLink RX2 67 "Coldaisle$Settings" "limit" "I") (by decide +kernel)) (fun _ h9 => h9) rfl (by decide +kernel) rfl rfl (Nat.le_of_ble_eq_true rfl) dX2_setHall_33 (fun H locs hP hD hS => ?_)
  have hP : va_P D vwCl (wC cI cZ cO x a t b ck Ho T E Dm F S C la T1 E1 D1 F1 S1 C1 la1 Lo Se Ef gp gi v w dl) H := hP
  have hD : va_D A (wC cI cZ cO x a t b ck Ho T E Dm F S C la T1 E1 D1 F1 S1 C1 la1 Lo Se Ef gp gi v w dl) := hD
  subst hQ9
  subst hA9
  exact kRet_v hx hb hr hlocks hP hS dX2_setHall_36

abbrev rmX2_setDelay : Room := { frames := 1, cells := 0, slots := 0, locals := 22 }
set_option maxHeartbeats 4000000 in
set_option maxRecDepth 100000 in
/-- setDelay -/
theorem c_X2_setDelay (l : Launch) (D : va_G) (cI cZ cO cJ : ClassId) (x a t b : Nat → Nat) (ck : Nat) (Ho T E Dm F S : Nat → Int32) (C : Nat → Nat → Int32) (la : Nat) (T1 E1 D1 F1 S1 : Nat → Int32) (C1 : Nat → Nat → Int32) (la1 : Nat) (Lo Se : Nat → Int32) (Ef : Nat → Nat → Int32) (gp gi am li : Int32) (dl : Nat) (d : Nat) (sz : Nat) (hd : d < 9) : kMi l yX2_setDelay wsX2_setDelay rmX2_setDelay D (kT cI cZ cO cJ) [.ref (x 0), .int (nI d)] (wC cI cZ cO x a t b ck Ho T E Dm F S C la T1 E1 D1 F1 S1 C1 la1 Lo Se Ef gp gi am li dl) (wC cI cZ cO x a t b ck Ho T E Dm F S C la T1 E1 D1 F1 S1 C1 la1 Lo Se Ef gp gi am li d) sz (nI dl) := by
  refine kEnter (cc := cX2_setDelay) (maxL := 3) (ret := some .int) (by decide +kernel) rfl (Nat.le_of_ble_eq_true rfl) ?_
  intro p e s m below meth c args hx hb hr hml hts hown hlocks hin hK hN A hA9 Q hQ9 hP hD hsz hS hA ls hl
  have hl : lv_has ls 3 [(0, .ref (x 0)), (1, .int (nI d))] := hl
  have hi_X2 : ∀ w ∈ u_ws RX2 TX2 5, w ∈ wsX2_setDelay := by decide +kernel
  have hi_X1 : ∀ w ∈ u_ws RX1 TX1 8, w ∈ wsX2_setDelay := by decide +kernel
  obtain ⟨H, hH9⟩ : ∃ H, H = s.heap := ⟨_, rfl⟩
  rw [← hH9] at hP ⊢
  have hS : va_S A s.heap H [] := by rw [hH9]; exact va_S.rf
  refine lv_iload_n hx hb dX2_setDelay_0 rfl (lv_at hl 1 rfl) ?_
  refine lv_iconst (v := nI 0) hx hb dX2_setDelay_1 (by decide +kernel) ?_
  refine lv_bipush (v := nI 8) hx hb dX2_setDelay_2 (by decide +kernel) ?_
  refine kCall_v (W0 := []) (W1 := []) hP hD hS hA [] rfl rfl (va_runS (As := [.int (nI d), .int (nI 0), .int (nI 8)]) (rest := []) ⟨hx, hb, hml, hown, hts⟩ (c_X2_requireWithin l D cI cZ cO cJ (nI d) (nI 0) (nI 8) H.size (nI_nlt (by omega) (by omega)) (nI_le (by omega) (by decide))) (va_cwS (rm := rmX2_requireWithin) 3 hts gX2_setDelay_X2_requireWithin rfl rfl rfl (by decide +kernel) ⟨Nat.le_of_ble_eq_true rfl, Nat.le_of_ble_eq_true rfl⟩) (kPreS hK hN hP hD [] rfl rfl) rfl rfl hl.1 rfl (lv_room (Nat.le_of_ble_eq_true rfl)) dX2_setDelay_4 ⟨Nat.zero_le _, Nat.zero_le _⟩) (fun H locs hP hD hS => ?_)
  have hP : va_P D vwCl (wC cI cZ cO x a t b ck Ho T E Dm F S C la T1 E1 D1 F1 S1 C1 la1 Lo Se Ef gp gi am li dl) H := hP
  have hD : va_D A (wC cI cZ cO x a t b ck Ho T E Dm F S C la T1 E1 D1 F1 S1 C1 la1 Lo Se Ef gp gi am li dl) := hD
  refine lv_aload_n hx hb dX2_setDelay_7 rfl (lv_at hl 0 rfl) ?_
  refine va_get (D := D) (ci := 2) (v := .ref (b 0)) (C := RX2) (T := TX2) (N := 5) hx hb hts hi_X2 hown hK hP 0 rfl rfl 0 (by decide) (hts (.fieldLink RX2 10 "Coldaisle" "settings" "LColdaisle$Settings;") (by decide +kernel)) (fun _ h9 => h9) rfl dX2_setDelay_8 ?_
  refine va_get (D := D) (ci := 1) (v := .int (nI dl)) (C := RX1) (T := TX1) (N := 8) hx hb hts hi_X1 hown hK hP 16 rfl rfl 7 (by decide) (hts (.fieldLink RX2 70 "Coldaisle$Settings" "delay" "I") (by decide +kernel)) (fun _ h9 => h9) rfl dX2_setDelay_11 ?_
  refine lv_istore_n (lv' := [(2, .int (nI dl)), (0, .ref (x 0)), (1, .int (nI d))]) hx hb dX2_setDelay_14 rfl hl (by decide) rfl (fun ls hl => ?_)
  refine lv_aload_n hx hb dX2_setDelay_15 rfl (lv_at hl 1 rfl) ?_
  refine va_get (D := D) (ci := 2) (v := .ref (b 0)) (C := RX2) (T := TX2) (N := 5) hx hb hts hi_X2 hown hK hP 0 rfl rfl 0 (by decide) (hts (.fieldLink RX2 10 "Coldaisle" "settings" "LColdaisle$Settings;") (by decide +kernel)) (fun _ h9 => h9) rfl dX2_setDelay_16 ?_
  refine lv_iload_n hx hb dX2_setDelay_19 rfl (lv_at hl 2 rfl) ?_
  refine va_put (D := D) (ci := 1) (v := .int (nI d)) (ty := tyX1 7) (C := RX1) (T := TX1) (N := 8) hx hb hts hi_X1 tyX1 tyX1_ok nmX1 hown hK hP hD hS 16 rfl rfl 7 (by decide) (hts (.fieldLink RX2 70 "Coldaisle$Settings" "delay" "I") (by decide +kernel)) (fun _ h9 => h9) rfl (by decide +kernel) rfl rfl (Nat.le_of_ble_eq_true rfl) dX2_setDelay_20 (fun H locs hP hD hS => ?_)
  have hP : va_P D vwCl (wC cI cZ cO x a t b ck Ho T E Dm F S C la T1 E1 D1 F1 S1 C1 la1 Lo Se Ef gp gi am li d) H := hP
  have hD : va_D A (wC cI cZ cO x a t b ck Ho T E Dm F S C la T1 E1 D1 F1 S1 C1 la1 Lo Se Ef gp gi am li d) := hD
  refine lv_iload_n hx hb dX2_setDelay_23 rfl (lv_at hl 0 rfl) ?_
  subst hQ9
  subst hA9
  exact kRet_i hx hb hr hlocks hP hS dX2_setDelay_24 rfl

abbrev rmX2_fail : Room := { frames := 2, cells := 0, slots := 0, locals := 42 }
set_option maxHeartbeats 4000000 in
set_option maxRecDepth 100000 in
/-- fail -/
theorem c_X2_fail (l : Launch) (D : va_G) (cI cZ cO cJ : ClassId) (x a t b : Nat → Nat) (ck : Nat) (Ho T E Dm F S : Nat → Int32) (C : Nat → Nat → Int32) (la : Nat) (T1 E1 D1 F1 S1 : Nat → Int32) (C1 : Nat → Nat → Int32) (la1 : Nat) (Lo Se : Nat → Int32) (Ef : Nat → Nat → Int32) (gp gi am li : Int32) (dl : Nat) (f : Nat) (sz : Nat) (hf : f < 8) (hF : F f = 0) : kMi l yX2_fail wsX2_fail rmX2_fail D (kT cI cZ cO cJ) [.ref (x 0), .int (nI f)] (wC cI cZ cO x a t b ck Ho T E Dm F S C la T1 E1 D1 F1 S1 C1 la1 Lo Se Ef gp gi am li dl) (wC cI cZ cO x a t b ck Ho T E Dm (upd F f (nI 1)) (upd S f (nI 0)) C la T1 E1 D1 F1 S1 C1 la1 Lo Se Ef gp gi am li dl) sz (mCnt (upd F f (nI 1)) 8) := by
  refine kEnter (cc := cX2_fail) (maxL := 2) (ret := some .int) (by decide +kernel) rfl (Nat.le_of_ble_eq_true rfl) ?_
  intro p e s m below meth c args hx hb hr hml hts hown hlocks hin hK hN A hA9 Q hQ9 hP hD hsz hS hA ls hl
  have hl : lv_has ls 2 [(0, .ref (x 0)), (1, .int (nI f))] := hl
  have hi_X2 : ∀ w ∈ u_ws RX2 TX2 5, w ∈ wsX2_fail := by decide +kernel
  have hi_X0 : ∀ w ∈ u_ws RX0 TX0 7, w ∈ wsX2_fail := by decide +kernel
  obtain ⟨H, hH9⟩ : ∃ H, H = s.heap := ⟨_, rfl⟩
  rw [← hH9] at hP ⊢
  have hS : va_S A s.heap H [] := by rw [hH9]; exact va_S.rf
  refine lv_iload_n hx hb dX2_fail_0 rfl (lv_at hl 1 rfl) ?_
  refine kCall_v (W0 := []) (W1 := []) hP hD hS hA [] rfl rfl (va_runS (As := [.int (nI f)]) (rest := []) ⟨hx, hb, hml, hown, hts⟩ (c_X2_requireFan l D cI cZ cO cJ (nI f) H.size (nI_nlt (by omega) (by omega)) (nI_le (by omega) (by decide))) (va_cwS (rm := rmX2_requireFan) 1 hts gX2_fail_X2_requireFan rfl rfl rfl (by decide +kernel) ⟨Nat.le_of_ble_eq_true rfl, Nat.le_of_ble_eq_true rfl⟩) (kPreS hK hN hP hD [] rfl rfl) rfl rfl hl.1 rfl (lv_room (Nat.le_of_ble_eq_true rfl)) dX2_fail_1 ⟨Nat.zero_le _, Nat.zero_le _⟩) (fun H locs hP hD hS => ?_)
  have hP : va_P D vwCl (wC cI cZ cO x a t b ck Ho T E Dm F S C la T1 E1 D1 F1 S1 C1 la1 Lo Se Ef gp gi am li dl) H := hP
  have hD : va_D A (wC cI cZ cO x a t b ck Ho T E Dm F S C la T1 E1 D1 F1 S1 C1 la1 Lo Se Ef gp gi am li dl) := hD
  refine lv_aload_n hx hb dX2_fail_4 rfl (lv_at hl 0 rfl) ?_
  refine va_get (D := D) (ci := 2) (v := .ref (a 0)) (C := RX2) (T := TX2) (N := 5) hx hb hts hi_X2 hown hK hP 0 rfl rfl 1 (by decide) (hts (.fieldLink RX2 19 "Coldaisle" "hall" "LColdaisle$Hall;") (by decide +kernel)) (fun _ h9 => h9) rfl dX2_fail_5 ?_
  refine va_get (D := D) (ci := 0) (v := .ref (a 4)) (C := RX0) (T := TX0) (N := 7) hx hb hts hi_X0 hown hK hP 2 rfl rfl 3 (by decide) (hts (.fieldLink RX2 73 "Coldaisle$Hall" "failed" "[Z") (by decide +kernel)) (fun _ h9 => h9) rfl dX2_fail_8 ?_
  refine lv_iload_n hx hb dX2_fail_11 rfl (lv_at hl 1 rfl) ?_
  refine k_zald hx hb hK hP 6 1 rfl rfl (i := f) (by omega) (by decide) dX2_fail_12 ?_
  refine lv_if_eq (tgt := 26) hx hb dX2_fail_13 (by decide) (fun _ => ?_) (fun c9 => absurd hF c9)
  refine lv_aload_n hx hb dX2_fail_26 rfl (lv_at hl 0 rfl) ?_
  refine va_get (D := D) (ci := 2) (v := .ref (a 0)) (C := RX2) (T := TX2) (N := 5) hx hb hts hi_X2 hown hK hP 0 rfl rfl 1 (by decide) (hts (.fieldLink RX2 19 "Coldaisle" "hall" "LColdaisle$Hall;") (by decide +kernel)) (fun _ h9 => h9) rfl dX2_fail_27 ?_
  refine lv_iload_n hx hb dX2_fail_30 rfl (lv_at hl 1 rfl) ?_
  refine kCall2_v (ws' := wC cI cZ cO x a t b ck Ho T E Dm (upd F f (nI 1)) (upd S f (nI 0)) C la T1 E1 D1 F1 S1 C1 la1 Lo Se Ef gp gi am li dl) (W0 := wH cI cZ cO a b T E Dm F S C la Lo Se Ef gp gi am li dl) (W1 := wH cI cZ cO a b T E Dm (upd F f (nI 1)) (upd S f (nI 0)) C la Lo Se Ef gp gi am li dl) hP hD hS hA pA pAR wC_hallC wC_hallC wC_hallR wC_len (by decide) (by decide) wC_hallF (va_runV (As := [.int (nI f)]) (rest := []) ⟨hx, hb, hml, hown, hts⟩ (c_X0_stopFan l D cI cZ cO cJ a b T E Dm F S C la Lo Se Ef gp gi am li dl f H.size (by omega)) (cwV (rm := rmX0_stopFan) 1 hts gX2_fail_X0_stopFan rfl rfl rfl (by decide +kernel) ⟨Nat.le_of_ble_eq_true rfl, Nat.le_of_ble_eq_true rfl⟩) (kPreV hK hN hP hD pA rfl wC_hallC (va_recv hK hP (ci := 0) (q0 := 2) rfl rfl)) rfl rfl hl.1 rfl (lv_room (Nat.le_of_ble_eq_true rfl)) dX2_fail_31 ⟨Nat.zero_le _, Nat.zero_le _⟩) (fun H locs hP hD hS => ?_)
  refine lv_aload_n hx hb dX2_fail_34 rfl (lv_at hl 0 rfl) ?_
  refine va_get (D := D) (ci := 2) (v := .ref (a 0)) (C := RX2) (T := TX2) (N := 5) hx hb hts hi_X2 hown hK hP 0 rfl rfl 1 (by decide) (hts (.fieldLink RX2 19 "Coldaisle" "hall" "LColdaisle$Hall;") (by decide +kernel)) (fun _ h9 => h9) rfl dX2_fail_35 ?_
  refine kCall2_i (ws' := wC cI cZ cO x a t b ck Ho T E Dm (upd F f (nI 1)) (upd S f (nI 0)) C la T1 E1 D1 F1 S1 C1 la1 Lo Se Ef gp gi am li dl) (W0 := wH cI cZ cO a b T E Dm (upd F f (nI 1)) (upd S f (nI 0)) C la Lo Se Ef gp gi am li dl) (W1 := wH cI cZ cO a b T E Dm (upd F f (nI 1)) (upd S f (nI 0)) C la Lo Se Ef gp gi am li dl) hP hD hS hA pA pAR wC_hallC wC_hallC wC_hallR wC_len (by decide) (by decide) wC_hallF (va_runV (As := []) (rest := []) ⟨hx, hb, hml, hown, hts⟩ (c_X0_countRunning l D cI cZ cO cJ a b T E Dm (upd F f (nI 1)) (upd S f (nI 0)) C la Lo Se Ef gp gi am li dl H.size) (cwV (rm := rmX0_countRunning) 0 hts gX2_fail_X0_countRunning rfl rfl rfl (by decide +kernel) ⟨Nat.le_of_ble_eq_true rfl, Nat.le_of_ble_eq_true rfl⟩) (kPreV hK hN hP hD pA rfl wC_hallC (va_recv hK hP (ci := 0) (q0 := 2) rfl rfl)) rfl rfl hl.1 rfl (lv_room (Nat.le_of_ble_eq_true rfl)) dX2_fail_38 ⟨Nat.zero_le _, Nat.zero_le _⟩) (fun H locs hP hD hS => ?_)
  subst hQ9
  subst hA9
  exact kRet_i hx hb hr hlocks hP hS dX2_fail_41 rfl

abbrev rmX2_repair : Room := { frames := 2, cells := 0, slots := 0, locals := 42 }
set_option maxHeartbeats 4000000 in
set_option maxRecDepth 100000 in
/-- repair -/
theorem c_X2_repair (l : Launch) (D : va_G) (cI cZ cO cJ : ClassId) (x a t b : Nat → Nat) (ck : Nat) (Ho T E Dm F S : Nat → Int32) (C : Nat → Nat → Int32) (la : Nat) (T1 E1 D1 F1 S1 : Nat → Int32) (C1 : Nat → Nat → Int32) (la1 : Nat) (Lo Se : Nat → Int32) (Ef : Nat → Nat → Int32) (gp gi am li : Int32) (dl : Nat) (f : Nat) (sz : Nat) (hf : f < 8) (hF : ¬ F f = 0) : kMi l yX2_repair wsX2_repair rmX2_repair D (kT cI cZ cO cJ) [.ref (x 0), .int (nI f)] (wC cI cZ cO x a t b ck Ho T E Dm F S C la T1 E1 D1 F1 S1 C1 la1 Lo Se Ef gp gi am li dl) (wC cI cZ cO x a t b ck Ho T E Dm (upd F f (nI 0)) S C la T1 E1 D1 F1 S1 C1 la1 Lo Se Ef gp gi am li dl) sz (mCnt (upd F f (nI 0)) 8) := by
  refine kEnter (cc := cX2_repair) (maxL := 2) (ret := some .int) (by decide +kernel) rfl (Nat.le_of_ble_eq_true rfl) ?_
  intro p e s m below meth c args hx hb hr hml hts hown hlocks hin hK hN A hA9 Q hQ9 hP hD hsz hS hA ls hl
  have hl : lv_has ls 2 [(0, .ref (x 0)), (1, .int (nI f))] := hl
  have hi_X2 : ∀ w ∈ u_ws RX2 TX2 5, w ∈ wsX2_repair := by decide +kernel
  have hi_X0 : ∀ w ∈ u_ws RX0 TX0 7, w ∈ wsX2_repair := by decide +kernel
  obtain ⟨H, hH9⟩ : ∃ H, H = s.heap := ⟨_, rfl⟩
  rw [← hH9] at hP ⊢
  have hS : va_S A s.heap H [] := by rw [hH9]; exact va_S.rf
  refine lv_iload_n hx hb dX2_repair_0 rfl (lv_at hl 1 rfl) ?_
  refine kCall_v (W0 := []) (W1 := []) hP hD hS hA [] rfl rfl (va_runS (As := [.int (nI f)]) (rest := []) ⟨hx, hb, hml, hown, hts⟩ (c_X2_requireFan l D cI cZ cO cJ (nI f) H.size (nI_nlt (by omega) (by omega)) (nI_le (by omega) (by decide))) (va_cwS (rm := rmX2_requireFan) 1 hts gX2_repair_X2_requireFan rfl rfl rfl (by decide +kernel) ⟨Nat.le_of_ble_eq_true rfl, Nat.le_of_ble_eq_true rfl⟩) (kPreS hK hN hP hD [] rfl rfl) rfl rfl hl.1 rfl (lv_room (Nat.le_of_ble_eq_true rfl)) dX2_repair_1 ⟨Nat.zero_le _, Nat.zero_le _⟩) (fun H locs hP hD hS => ?_)
  have hP : va_P D vwCl (wC cI cZ cO x a t b ck Ho T E Dm F S C la T1 E1 D1 F1 S1 C1 la1 Lo Se Ef gp gi am li dl) H := hP
  have hD : va_D A (wC cI cZ cO x a t b ck Ho T E Dm F S C la T1 E1 D1 F1 S1 C1 la1 Lo Se Ef gp gi am li dl) := hD
  refine lv_aload_n hx hb dX2_repair_4 rfl (lv_at hl 0 rfl) ?_
  refine va_get (D := D) (ci := 2) (v := .ref (a 0)) (C := RX2) (T := TX2) (N := 5) hx hb hts hi_X2 hown hK hP 0 rfl rfl 1 (by decide) (hts (.fieldLink RX2 19 "Coldaisle" "hall" "LColdaisle$Hall;") (by decide +kernel)) (fun _ h9 => h9) rfl dX2_repair_5 ?_
  refine va_get (D := D) (ci := 0) (v := .ref (a 4)) (C := RX0) (T := TX0) (N := 7) hx hb hts hi_X0 hown hK hP 2 rfl rfl 3 (by decide) (hts (.fieldLink RX2 73 "Coldaisle$Hall" "failed" "[Z") (by decide +kernel)) (fun _ h9 => h9) rfl dX2_repair_8 ?_
  refine lv_iload_n hx hb dX2_repair_11 rfl (lv_at hl 1 rfl) ?_
  refine k_zald hx hb hK hP 6 1 rfl rfl (i := f) (by omega) (by decide) dX2_repair_12 ?_
  refine lv_if_ne (tgt := 26) hx hb dX2_repair_13 (by decide) (fun _ => ?_) (fun c9 => absurd c9 hF)
  refine lv_aload_n hx hb dX2_repair_26 rfl (lv_at hl 0 rfl) ?_
  refine va_get (D := D) (ci := 2) (v := .ref (a 0)) (C := RX2) (T := TX2) (N := 5) hx hb hts hi_X2 hown hK hP 0 rfl rfl 1 (by decide) (hts (.fieldLink RX2 19 "Coldaisle" "hall" "LColdaisle$Hall;") (by decide +kernel)) (fun _ h9 => h9) rfl dX2_repair_27 ?_
  refine va_get (D := D) (ci := 0) (v := .ref (a 4)) (C := RX0) (T := TX0) (N := 7) hx hb hts hi_X0 hown hK hP 2 rfl rfl 3 (by decide) (hts (.fieldLink RX2 73 "Coldaisle$Hall" "failed" "[Z") (by decide +kernel)) (fun _ h9 => h9) rfl dX2_repair_30 ?_
  refine lv_iload_n hx hb dX2_repair_33 rfl (lv_at hl 1 rfl) ?_
  refine lv_iconst (v := nI 0) hx hb dX2_repair_34 (by decide +kernel) ?_
  refine k_zast hx hb hK hP hD hS 6 1 rfl rfl (i := f) (x := nI 0) (x' := nI 0) (by omega) (by decide) (by decide +kernel) dX2_repair_35 (fun H locs hP hD hS => ?_)
  have hP : va_P D vwCl (wC cI cZ cO x a t b ck Ho T E Dm (upd F f (nI 0)) S C la T1 E1 D1 F1 S1 C1 la1 Lo Se Ef gp gi am li dl) H := hP
  have hD : va_D A (wC cI cZ cO x a t b ck Ho T E Dm (upd F f (nI 0)) S C la T1 E1 D1 F1 S1 C1 la1 Lo Se Ef gp gi am li dl) := hD
  refine lv_aload_n hx hb dX2_repair_36 rfl (lv_at hl 0 rfl) ?_
  refine va_get (D := D) (ci := 2) (v := .ref (a 0)) (C := RX2) (T := TX2) (N := 5) hx hb hts hi_X2 hown hK hP 0 rfl rfl 1 (by decide) (hts (.fieldLink RX2 19 "Coldaisle" "hall" "LColdaisle$Hall;") (by decide +kernel)) (fun _ h9 => h9) rfl dX2_repair_37 ?_
  refine kCall2_i (ws' := wC cI cZ cO x a t b ck Ho T E Dm (upd F f (nI 0)) S C la T1 E1 D1 F1 S1 C1 la1 Lo Se Ef gp gi am li dl) (W0 := wH cI cZ cO a b T E Dm (upd F f (nI 0)) S C la Lo Se Ef gp gi am li dl) (W1 := wH cI cZ cO a b T E Dm (upd F f (nI 0)) S C la Lo Se Ef gp gi am li dl) hP hD hS hA pA pAR wC_hallC wC_hallC wC_hallR wC_len (by decide) (by decide) wC_hallF (va_runV (As := []) (rest := []) ⟨hx, hb, hml, hown, hts⟩ (c_X0_countRunning l D cI cZ cO cJ a b T E Dm (upd F f (nI 0)) S C la Lo Se Ef gp gi am li dl H.size) (cwV (rm := rmX0_countRunning) 0 hts gX2_repair_X0_countRunning rfl rfl rfl (by decide +kernel) ⟨Nat.le_of_ble_eq_true rfl, Nat.le_of_ble_eq_true rfl⟩) (kPreV hK hN hP hD pA rfl wC_hallC (va_recv hK hP (ci := 0) (q0 := 2) rfl rfl)) rfl rfl hl.1 rfl (lv_room (Nat.le_of_ble_eq_true rfl)) dX2_repair_40 ⟨Nat.zero_le _, Nat.zero_le _⟩) (fun H locs hP hD hS => ?_)
  subst hQ9
  subst hA9
  exact kRet_i hx hb hr hlocks hP hS dX2_repair_43 rfl

abbrev rmX2_command : Room := { frames := 2, cells := 0, slots := 0, locals := 43 }
set_option maxHeartbeats 4000000 in
set_option maxRecDepth 100000 in
/-- command -/
theorem c_X2_command (l : Launch) (D : va_G) (cI cZ cO cJ : ClassId) (x a t b : Nat → Nat) (ck : Nat) (Ho T E Dm F S : Nat → Int32) (C : Nat → Nat → Int32) (la : Nat) (T1 E1 D1 F1 S1 : Nat → Int32) (C1 : Nat → Nat → Int32) (la1 : Nat) (Lo Se : Nat → Int32) (Ef : Nat → Nat → Int32) (gp gi am li : Int32) (dl : Nat) (f : Nat) (sz : Nat) (hf : f < 8) (h8 : la < 9) : kMi l yX2_command wsX2_command rmX2_command D (kT cI cZ cO cJ) [.ref (x 0), .int (nI f)] (wC cI cZ cO x a t b ck Ho T E Dm F S C la T1 E1 D1 F1 S1 C1 la1 Lo Se Ef gp gi am li dl) (wC cI cZ cO x a t b ck Ho T E Dm F S C la T1 E1 D1 F1 S1 C1 la1 Lo Se Ef gp gi am li dl) sz (C la f) := by
  refine kEnter (cc := cX2_command) (maxL := 2) (ret := some .int) (by decide +kernel) rfl (Nat.le_of_ble_eq_true rfl) ?_
  intro p e s m below meth c args hx hb hr hml hts hown hlocks hin hK hN A hA9 Q hQ9 hP hD hsz hS hA ls hl
  have hl : lv_has ls 2 [(0, .ref (x 0)), (1, .int (nI f))] := hl
  have hi_X2 : ∀ w ∈ u_ws RX2 TX2 5, w ∈ wsX2_command := by decide +kernel
  have hi_X0 : ∀ w ∈ u_ws RX0 TX0 7, w ∈ wsX2_command := by decide +kernel
  obtain ⟨H, hH9⟩ : ∃ H, H = s.heap := ⟨_, rfl⟩
  rw [← hH9] at hP ⊢
  have hS : va_S A s.heap H [] := by rw [hH9]; exact va_S.rf
  refine lv_iload_n hx hb dX2_command_0 rfl (lv_at hl 1 rfl) ?_
  refine kCall_v (W0 := []) (W1 := []) hP hD hS hA [] rfl rfl (va_runS (As := [.int (nI f)]) (rest := []) ⟨hx, hb, hml, hown, hts⟩ (c_X2_requireFan l D cI cZ cO cJ (nI f) H.size (nI_nlt (by omega) (by omega)) (nI_le (by omega) (by decide))) (va_cwS (rm := rmX2_requireFan) 1 hts gX2_command_X2_requireFan rfl rfl rfl (by decide +kernel) ⟨Nat.le_of_ble_eq_true rfl, Nat.le_of_ble_eq_true rfl⟩) (kPreS hK hN hP hD [] rfl rfl) rfl rfl hl.1 rfl (lv_room (Nat.le_of_ble_eq_true rfl)) dX2_command_1 ⟨Nat.zero_le _, Nat.zero_le _⟩) (fun H locs hP hD hS => ?_)
  have hP : va_P D vwCl (wC cI cZ cO x a t b ck Ho T E Dm F S C la T1 E1 D1 F1 S1 C1 la1 Lo Se Ef gp gi am li dl) H := hP
  have hD : va_D A (wC cI cZ cO x a t b ck Ho T E Dm F S C la T1 E1 D1 F1 S1 C1 la1 Lo Se Ef gp gi am li dl) := hD
  refine lv_aload_n hx hb dX2_command_4 rfl (lv_at hl 0 rfl) ?_
  refine va_get (D := D) (ci := 2) (v := .ref (a 0)) (C := RX2) (T := TX2) (N := 5) hx hb hts hi_X2 hown hK hP 0 rfl rfl 1 (by decide) (hts (.fieldLink RX2 19 "Coldaisle" "hall" "LColdaisle$Hall;") (by decide +kernel)) (fun _ h9 => h9) rfl dX2_command_5 ?_
  refine lv_iconst (v := nI 0) hx hb dX2_command_8 (by decide +kernel) ?_
  refine kCall2_r (ws' := wC cI cZ cO x a t b ck Ho T E Dm F S C la T1 E1 D1 F1 S1 C1 la1 Lo Se Ef gp gi am li dl) (W0 := wH cI cZ cO a b T E Dm F S C la Lo Se Ef gp gi am li dl) (W1 := wH cI cZ cO a b T E Dm F S C la Lo Se Ef gp gi am li dl) hP hD hS hA pA pAR wC_hallC wC_hallC wC_hallR wC_len (by decide) (by decide) wC_hallF (va_runV (As := [.int (nI 0)]) (rest := []) ⟨hx, hb, hml, hown, hts⟩ (c_X0_commandsAgo l D cI cZ cO cJ a b T E Dm F S C la Lo Se Ef gp gi am li dl 0 H.size (by omega) (by omega)) (cwV (rm := rmX0_commandsAgo) 1 hts gX2_command_X0_commandsAgo rfl rfl rfl (by decide +kernel) ⟨Nat.le_of_ble_eq_true rfl, Nat.le_of_ble_eq_true rfl⟩) (kPreV hK hN hP hD pA rfl wC_hallC (va_recv hK hP (ci := 0) (q0 := 2) rfl rfl)) rfl rfl hl.1 rfl (lv_room (Nat.le_of_ble_eq_true rfl)) dX2_command_9 ⟨Nat.zero_le _, Nat.zero_le _⟩) (fun H locs hP hD hS => ?_)
  rw [show (la + 9 - 0) % 9 = la from by omega]
  refine lv_iload_n hx hb dX2_command_12 rfl (lv_at hl 1 rfl) ?_
  refine k_iald hx hb hK hP _ 0 (wC_ring (j := la) (by omega)) rfl (i := f) (by omega) (by decide) dX2_command_13 ?_
  subst hQ9
  subst hA9
  exact kRet_i hx hb hr hlocks hP hS dX2_command_14 rfl

abbrev rmX2_speed : Room := { frames := 2, cells := 0, slots := 0, locals := 42 }
set_option maxHeartbeats 4000000 in
set_option maxRecDepth 100000 in
/-- speed -/
theorem c_X2_speed (l : Launch) (D : va_G) (cI cZ cO cJ : ClassId) (x a t b : Nat → Nat) (ck : Nat) (Ho T E Dm F S : Nat → Int32) (C : Nat → Nat → Int32) (la : Nat) (T1 E1 D1 F1 S1 : Nat → Int32) (C1 : Nat → Nat → Int32) (la1 : Nat) (Lo Se : Nat → Int32) (Ef : Nat → Nat → Int32) (gp gi am li : Int32) (dl : Nat) (f : Nat) (sz : Nat) (hf : f < 8) : kMi l yX2_speed wsX2_speed rmX2_speed D (kT cI cZ cO cJ) [.ref (x 0), .int (nI f)] (wC cI cZ cO x a t b ck Ho T E Dm F S C la T1 E1 D1 F1 S1 C1 la1 Lo Se Ef gp gi am li dl) (wC cI cZ cO x a t b ck Ho T E Dm F S C la T1 E1 D1 F1 S1 C1 la1 Lo Se Ef gp gi am li dl) sz (S f) := by
  refine kEnter (cc := cX2_speed) (maxL := 2) (ret := some .int) (by decide +kernel) rfl (Nat.le_of_ble_eq_true rfl) ?_
  intro p e s m below meth c args hx hb hr hml hts hown hlocks hin hK hN A hA9 Q hQ9 hP hD hsz hS hA ls hl
  have hl : lv_has ls 2 [(0, .ref (x 0)), (1, .int (nI f))] := hl
  have hi_X2 : ∀ w ∈ u_ws RX2 TX2 5, w ∈ wsX2_speed := by decide +kernel
  have hi_X0 : ∀ w ∈ u_ws RX0 TX0 7, w ∈ wsX2_speed := by decide +kernel
  obtain ⟨H, hH9⟩ : ∃ H, H = s.heap := ⟨_, rfl⟩
  rw [← hH9] at hP ⊢
  have hS : va_S A s.heap H [] := by rw [hH9]; exact va_S.rf
  refine lv_iload_n hx hb dX2_speed_0 rfl (lv_at hl 1 rfl) ?_
  refine kCall_v (W0 := []) (W1 := []) hP hD hS hA [] rfl rfl (va_runS (As := [.int (nI f)]) (rest := []) ⟨hx, hb, hml, hown, hts⟩ (c_X2_requireFan l D cI cZ cO cJ (nI f) H.size (nI_nlt (by omega) (by omega)) (nI_le (by omega) (by decide))) (va_cwS (rm := rmX2_requireFan) 1 hts gX2_speed_X2_requireFan rfl rfl rfl (by decide +kernel) ⟨Nat.le_of_ble_eq_true rfl, Nat.le_of_ble_eq_true rfl⟩) (kPreS hK hN hP hD [] rfl rfl) rfl rfl hl.1 rfl (lv_room (Nat.le_of_ble_eq_true rfl)) dX2_speed_1 ⟨Nat.zero_le _, Nat.zero_le _⟩) (fun H locs hP hD hS => ?_)
  have hP : va_P D vwCl (wC cI cZ cO x a t b ck Ho T E Dm F S C la T1 E1 D1 F1 S1 C1 la1 Lo Se Ef gp gi am li dl) H := hP
  have hD : va_D A (wC cI cZ cO x a t b ck Ho T E Dm F S C la T1 E1 D1 F1 S1 C1 la1 Lo Se Ef gp gi am li dl) := hD
  refine lv_aload_n hx hb dX2_speed_4 rfl (lv_at hl 0 rfl) ?_
  refine va_get (D := D) (ci := 2) (v := .ref (a 0)) (C := RX2) (T := TX2) (N := 5) hx hb hts hi_X2 hown hK hP 0 rfl rfl 1 (by decide) (hts (.fieldLink RX2 19 "Coldaisle" "hall" "LColdaisle$Hall;") (by decide +kernel)) (fun _ h9 => h9) rfl dX2_speed_5 ?_
  refine va_get (D := D) (ci := 0) (v := .ref (a 5)) (C := RX0) (T := TX0) (N := 7) hx hb hts hi_X0 hown hK hP 2 rfl rfl 4 (by decide) (hts (.fieldLink RX2 97 "Coldaisle$Hall" "speed" "[I") (by decide +kernel)) (fun _ h9 => h9) rfl dX2_speed_8 ?_
  refine lv_iload_n hx hb dX2_speed_11 rfl (lv_at hl 1 rfl) ?_
  refine k_iald hx hb hK hP 7 0 rfl rfl (i := f) (by omega) (by decide) dX2_speed_12 ?_
  subst hQ9
  subst hA9
  exact kRet_i hx hb hr hlocks hP hS dX2_speed_13 rfl

abbrev rmX2_clock : Room := { frames := 0, cells := 0, slots := 0, locals := 0 }
set_option maxHeartbeats 4000000 in
set_option maxRecDepth 100000 in
/-- clock -/
theorem c_X2_clock (l : Launch) (D : va_G) (cI cZ cO cJ : ClassId) (x a t b : Nat → Nat) (ck : Nat) (Ho T E Dm F S : Nat → Int32) (C : Nat → Nat → Int32) (la : Nat) (T1 E1 D1 F1 S1 : Nat → Int32) (C1 : Nat → Nat → Int32) (la1 : Nat) (Lo Se : Nat → Int32) (Ef : Nat → Nat → Int32) (gp gi am li : Int32) (dl : Nat) (sz : Nat) : kMi l yX2_clock wsX2_clock rmX2_clock D (kT cI cZ cO cJ) [.ref (x 0)] (wC cI cZ cO x a t b ck Ho T E Dm F S C la T1 E1 D1 F1 S1 C1 la1 Lo Se Ef gp gi am li dl) (wC cI cZ cO x a t b ck Ho T E Dm F S C la T1 E1 D1 F1 S1 C1 la1 Lo Se Ef gp gi am li dl) sz (nI ck) := by
  refine kEnter (cc := cX2_clock) (maxL := 1) (ret := some .int) (by decide +kernel) rfl (Nat.le_of_ble_eq_true rfl) ?_
  intro p e s m below meth c args hx hb hr hml hts hown hlocks hin hK hN A hA9 Q hQ9 hP hD hsz hS hA ls hl
  have hl : lv_has ls 1 [(0, .ref (x 0))] := hl
  have hi_X2 : ∀ w ∈ u_ws RX2 TX2 5, w ∈ wsX2_clock := by decide +kernel
  obtain ⟨H, hH9⟩ : ∃ H, H = s.heap := ⟨_, rfl⟩
  rw [← hH9] at hP ⊢
  have hS : va_S A s.heap H [] := by rw [hH9]; exact va_S.rf
  refine lv_aload_n hx hb dX2_clock_0 rfl (lv_at hl 0 rfl) ?_
  refine va_get (D := D) (ci := 2) (v := .int (nI ck)) (C := RX2) (T := TX2) (N := 5) hx hb hts hi_X2 hown hK hP 0 rfl rfl 4 (by decide) (hts (.fieldLink RX2 30 "Coldaisle" "clock" "I") (by decide +kernel)) (fun _ h9 => h9) rfl dX2_clock_1 ?_
  subst hQ9
  subst hA9
  exact kRet_i hx hb hr hlocks hP hS dX2_clock_4 rfl

abbrev rmX2_temperature : Room := { frames := 2, cells := 0, slots := 0, locals := 42 }
set_option maxHeartbeats 4000000 in
set_option maxRecDepth 100000 in
/-- temperature -/
theorem c_X2_temperature (l : Launch) (D : va_G) (cI cZ cO cJ : ClassId) (x a t b : Nat → Nat) (ck : Nat) (Ho T E Dm F S : Nat → Int32) (C : Nat → Nat → Int32) (la : Nat) (T1 E1 D1 F1 S1 : Nat → Int32) (C1 : Nat → Nat → Int32) (la1 : Nat) (Lo Se : Nat → Int32) (Ef : Nat → Nat → Int32) (gp gi am li : Int32) (dl : Nat) (z : Nat) (sz : Nat) (hz : z < 6) : kMi l yX2_temperature wsX2_temperature rmX2_temperature D (kT cI cZ cO cJ) [.ref (x 0), .int (nI z)] (wC cI cZ cO x a t b ck Ho T E Dm F S C la T1 E1 D1 F1 S1 C1 la1 Lo Se Ef gp gi am li dl) (wC cI cZ cO x a t b ck Ho T E Dm F S C la T1 E1 D1 F1 S1 C1 la1 Lo Se Ef gp gi am li dl) sz (T z) := by
  refine kEnter (cc := cX2_temperature) (maxL := 2) (ret := some .int) (by decide +kernel) rfl (Nat.le_of_ble_eq_true rfl) ?_
  intro p e s m below meth c args hx hb hr hml hts hown hlocks hin hK hN A hA9 Q hQ9 hP hD hsz hS hA ls hl
  have hl : lv_has ls 2 [(0, .ref (x 0)), (1, .int (nI z))] := hl
  have hi_X2 : ∀ w ∈ u_ws RX2 TX2 5, w ∈ wsX2_temperature := by decide +kernel
  have hi_X0 : ∀ w ∈ u_ws RX0 TX0 7, w ∈ wsX2_temperature := by decide +kernel
  obtain ⟨H, hH9⟩ : ∃ H, H = s.heap := ⟨_, rfl⟩
  rw [← hH9] at hP ⊢
  have hS : va_S A s.heap H [] := by rw [hH9]; exact va_S.rf
  refine lv_iload_n hx hb dX2_temperature_0 rfl (lv_at hl 1 rfl) ?_
  refine kCall_v (W0 := []) (W1 := []) hP hD hS hA [] rfl rfl (va_runS (As := [.int (nI z)]) (rest := []) ⟨hx, hb, hml, hown, hts⟩ (c_X2_requireZone l D cI cZ cO cJ (nI z) H.size (nI_nlt (by omega) (by omega)) (nI_le (by omega) (by decide))) (va_cwS (rm := rmX2_requireZone) 1 hts gX2_temperature_X2_requireZone rfl rfl rfl (by decide +kernel) ⟨Nat.le_of_ble_eq_true rfl, Nat.le_of_ble_eq_true rfl⟩) (kPreS hK hN hP hD [] rfl rfl) rfl rfl hl.1 rfl (lv_room (Nat.le_of_ble_eq_true rfl)) dX2_temperature_1 ⟨Nat.zero_le _, Nat.zero_le _⟩) (fun H locs hP hD hS => ?_)
  have hP : va_P D vwCl (wC cI cZ cO x a t b ck Ho T E Dm F S C la T1 E1 D1 F1 S1 C1 la1 Lo Se Ef gp gi am li dl) H := hP
  have hD : va_D A (wC cI cZ cO x a t b ck Ho T E Dm F S C la T1 E1 D1 F1 S1 C1 la1 Lo Se Ef gp gi am li dl) := hD
  refine lv_aload_n hx hb dX2_temperature_4 rfl (lv_at hl 0 rfl) ?_
  refine va_get (D := D) (ci := 2) (v := .ref (a 0)) (C := RX2) (T := TX2) (N := 5) hx hb hts hi_X2 hown hK hP 0 rfl rfl 1 (by decide) (hts (.fieldLink RX2 19 "Coldaisle" "hall" "LColdaisle$Hall;") (by decide +kernel)) (fun _ h9 => h9) rfl dX2_temperature_5 ?_
  refine va_get (D := D) (ci := 0) (v := .ref (a 1)) (C := RX0) (T := TX0) (N := 7) hx hb hts hi_X0 hown hK hP 2 rfl rfl 0 (by decide) (hts (.fieldLink RX2 110 "Coldaisle$Hall" "temperature" "[I") (by decide +kernel)) (fun _ h9 => h9) rfl dX2_temperature_8 ?_
  refine lv_iload_n hx hb dX2_temperature_11 rfl (lv_at hl 1 rfl) ?_
  refine k_iald hx hb hK hP 3 0 rfl rfl (i := z) (by omega) (by decide) dX2_temperature_12 ?_
  subst hQ9
  subst hA9
  exact kRet_i hx hb hr hlocks hP hS dX2_temperature_13 rfl

abbrev rmX2_demand : Room := { frames := 2, cells := 0, slots := 0, locals := 42 }
set_option maxHeartbeats 4000000 in
set_option maxRecDepth 100000 in
/-- demand -/
theorem c_X2_demand (l : Launch) (D : va_G) (cI cZ cO cJ : ClassId) (x a t b : Nat → Nat) (ck : Nat) (Ho T E Dm F S : Nat → Int32) (C : Nat → Nat → Int32) (la : Nat) (T1 E1 D1 F1 S1 : Nat → Int32) (C1 : Nat → Nat → Int32) (la1 : Nat) (Lo Se : Nat → Int32) (Ef : Nat → Nat → Int32) (gp gi am li : Int32) (dl : Nat) (z : Nat) (sz : Nat) (hz : z < 6) : kMi l yX2_demand wsX2_demand rmX2_demand D (kT cI cZ cO cJ) [.ref (x 0), .int (nI z)] (wC cI cZ cO x a t b ck Ho T E Dm F S C la T1 E1 D1 F1 S1 C1 la1 Lo Se Ef gp gi am li dl) (wC cI cZ cO x a t b ck Ho T E Dm F S C la T1 E1 D1 F1 S1 C1 la1 Lo Se Ef gp gi am li dl) sz (Dm z) := by
  refine kEnter (cc := cX2_demand) (maxL := 2) (ret := some .int) (by decide +kernel) rfl (Nat.le_of_ble_eq_true rfl) ?_
  intro p e s m below meth c args hx hb hr hml hts hown hlocks hin hK hN A hA9 Q hQ9 hP hD hsz hS hA ls hl
  have hl : lv_has ls 2 [(0, .ref (x 0)), (1, .int (nI z))] := hl
  have hi_X2 : ∀ w ∈ u_ws RX2 TX2 5, w ∈ wsX2_demand := by decide +kernel
  have hi_X0 : ∀ w ∈ u_ws RX0 TX0 7, w ∈ wsX2_demand := by decide +kernel
  obtain ⟨H, hH9⟩ : ∃ H, H = s.heap := ⟨_, rfl⟩
  rw [← hH9] at hP ⊢
  have hS : va_S A s.heap H [] := by rw [hH9]; exact va_S.rf
  refine lv_iload_n hx hb dX2_demand_0 rfl (lv_at hl 1 rfl) ?_
  refine kCall_v (W0 := []) (W1 := []) hP hD hS hA [] rfl rfl (va_runS (As := [.int (nI z)]) (rest := []) ⟨hx, hb, hml, hown, hts⟩ (c_X2_requireZone l D cI cZ cO cJ (nI z) H.size (nI_nlt (by omega) (by omega)) (nI_le (by omega) (by decide))) (va_cwS (rm := rmX2_requireZone) 1 hts gX2_demand_X2_requireZone rfl rfl rfl (by decide +kernel) ⟨Nat.le_of_ble_eq_true rfl, Nat.le_of_ble_eq_true rfl⟩) (kPreS hK hN hP hD [] rfl rfl) rfl rfl hl.1 rfl (lv_room (Nat.le_of_ble_eq_true rfl)) dX2_demand_1 ⟨Nat.zero_le _, Nat.zero_le _⟩) (fun H locs hP hD hS => ?_)
  have hP : va_P D vwCl (wC cI cZ cO x a t b ck Ho T E Dm F S C la T1 E1 D1 F1 S1 C1 la1 Lo Se Ef gp gi am li dl) H := hP
  have hD : va_D A (wC cI cZ cO x a t b ck Ho T E Dm F S C la T1 E1 D1 F1 S1 C1 la1 Lo Se Ef gp gi am li dl) := hD
  refine lv_aload_n hx hb dX2_demand_4 rfl (lv_at hl 0 rfl) ?_
  refine va_get (D := D) (ci := 2) (v := .ref (a 0)) (C := RX2) (T := TX2) (N := 5) hx hb hts hi_X2 hown hK hP 0 rfl rfl 1 (by decide) (hts (.fieldLink RX2 19 "Coldaisle" "hall" "LColdaisle$Hall;") (by decide +kernel)) (fun _ h9 => h9) rfl dX2_demand_5 ?_
  refine va_get (D := D) (ci := 0) (v := .ref (a 3)) (C := RX0) (T := TX0) (N := 7) hx hb hts hi_X0 hown hK hP 2 rfl rfl 2 (by decide) (hts (.fieldLink RX2 113 "Coldaisle$Hall" "demand" "[I") (by decide +kernel)) (fun _ h9 => h9) rfl dX2_demand_8 ?_
  refine lv_iload_n hx hb dX2_demand_11 rfl (lv_at hl 1 rfl) ?_
  refine k_iald hx hb hK hP 5 0 rfl rfl (i := z) (by omega) (by decide) dX2_demand_12 ?_
  subst hQ9
  subst hA9
  exact kRet_i hx hb hr hlocks hP hS dX2_demand_13 rfl

abbrev rmX2_errors : Room := { frames := 2, cells := 0, slots := 0, locals := 42 }
set_option maxHeartbeats 4000000 in
set_option maxRecDepth 100000 in
/-- errors -/
theorem c_X2_errors (l : Launch) (D : va_G) (cI cZ cO cJ : ClassId) (x a t b : Nat → Nat) (ck : Nat) (Ho T E Dm F S : Nat → Int32) (C : Nat → Nat → Int32) (la : Nat) (T1 E1 D1 F1 S1 : Nat → Int32) (C1 : Nat → Nat → Int32) (la1 : Nat) (Lo Se : Nat → Int32) (Ef : Nat → Nat → Int32) (gp gi am li : Int32) (dl : Nat) (z : Nat) (sz : Nat) (hz : z < 6) : kMi l yX2_errors wsX2_errors rmX2_errors D (kT cI cZ cO cJ) [.ref (x 0), .int (nI z)] (wC cI cZ cO x a t b ck Ho T E Dm F S C la T1 E1 D1 F1 S1 C1 la1 Lo Se Ef gp gi am li dl) (wC cI cZ cO x a t b ck Ho T E Dm F S C la T1 E1 D1 F1 S1 C1 la1 Lo Se Ef gp gi am li dl) sz (E z) := by
  refine kEnter (cc := cX2_errors) (maxL := 2) (ret := some .int) (by decide +kernel) rfl (Nat.le_of_ble_eq_true rfl) ?_
  intro p e s m below meth c args hx hb hr hml hts hown hlocks hin hK hN A hA9 Q hQ9 hP hD hsz hS hA ls hl
  have hl : lv_has ls 2 [(0, .ref (x 0)), (1, .int (nI z))] := hl
  have hi_X2 : ∀ w ∈ u_ws RX2 TX2 5, w ∈ wsX2_errors := by decide +kernel
  have hi_X0 : ∀ w ∈ u_ws RX0 TX0 7, w ∈ wsX2_errors := by decide +kernel
  obtain ⟨H, hH9⟩ : ∃ H, H = s.heap := ⟨_, rfl⟩
  rw [← hH9] at hP ⊢
  have hS : va_S A s.heap H [] := by rw [hH9]; exact va_S.rf
  refine lv_iload_n hx hb dX2_errors_0 rfl (lv_at hl 1 rfl) ?_
  refine kCall_v (W0 := []) (W1 := []) hP hD hS hA [] rfl rfl (va_runS (As := [.int (nI z)]) (rest := []) ⟨hx, hb, hml, hown, hts⟩ (c_X2_requireZone l D cI cZ cO cJ (nI z) H.size (nI_nlt (by omega) (by omega)) (nI_le (by omega) (by decide))) (va_cwS (rm := rmX2_requireZone) 1 hts gX2_errors_X2_requireZone rfl rfl rfl (by decide +kernel) ⟨Nat.le_of_ble_eq_true rfl, Nat.le_of_ble_eq_true rfl⟩) (kPreS hK hN hP hD [] rfl rfl) rfl rfl hl.1 rfl (lv_room (Nat.le_of_ble_eq_true rfl)) dX2_errors_1 ⟨Nat.zero_le _, Nat.zero_le _⟩) (fun H locs hP hD hS => ?_)
  have hP : va_P D vwCl (wC cI cZ cO x a t b ck Ho T E Dm F S C la T1 E1 D1 F1 S1 C1 la1 Lo Se Ef gp gi am li dl) H := hP
  have hD : va_D A (wC cI cZ cO x a t b ck Ho T E Dm F S C la T1 E1 D1 F1 S1 C1 la1 Lo Se Ef gp gi am li dl) := hD
  refine lv_aload_n hx hb dX2_errors_4 rfl (lv_at hl 0 rfl) ?_
  refine va_get (D := D) (ci := 2) (v := .ref (a 0)) (C := RX2) (T := TX2) (N := 5) hx hb hts hi_X2 hown hK hP 0 rfl rfl 1 (by decide) (hts (.fieldLink RX2 19 "Coldaisle" "hall" "LColdaisle$Hall;") (by decide +kernel)) (fun _ h9 => h9) rfl dX2_errors_5 ?_
  refine va_get (D := D) (ci := 0) (v := .ref (a 2)) (C := RX0) (T := TX0) (N := 7) hx hb hts hi_X0 hown hK hP 2 rfl rfl 1 (by decide) (hts (.fieldLink RX2 48 "Coldaisle$Hall" "errors" "[I") (by decide +kernel)) (fun _ h9 => h9) rfl dX2_errors_8 ?_
  refine lv_iload_n hx hb dX2_errors_11 rfl (lv_at hl 1 rfl) ?_
  refine k_iald hx hb hK hP 4 0 rfl rfl (i := z) (by omega) (by decide) dX2_errors_12 ?_
  subst hQ9
  subst hA9
  exact kRet_i hx hb hr hlocks hP hS dX2_errors_13 rfl

abbrev rmX2_hotMinutes : Room := { frames := 2, cells := 0, slots := 0, locals := 42 }
set_option maxHeartbeats 4000000 in
set_option maxRecDepth 100000 in
/-- hotMinutes -/
theorem c_X2_hotMinutes (l : Launch) (D : va_G) (cI cZ cO cJ : ClassId) (x a t b : Nat → Nat) (ck : Nat) (Ho T E Dm F S : Nat → Int32) (C : Nat → Nat → Int32) (la : Nat) (T1 E1 D1 F1 S1 : Nat → Int32) (C1 : Nat → Nat → Int32) (la1 : Nat) (Lo Se : Nat → Int32) (Ef : Nat → Nat → Int32) (gp gi am li : Int32) (dl : Nat) (z : Nat) (sz : Nat) (hz : z < 6) : kMi l yX2_hotMinutes wsX2_hotMinutes rmX2_hotMinutes D (kT cI cZ cO cJ) [.ref (x 0), .int (nI z)] (wC cI cZ cO x a t b ck Ho T E Dm F S C la T1 E1 D1 F1 S1 C1 la1 Lo Se Ef gp gi am li dl) (wC cI cZ cO x a t b ck Ho T E Dm F S C la T1 E1 D1 F1 S1 C1 la1 Lo Se Ef gp gi am li dl) sz (Ho z) := by
  refine kEnter (cc := cX2_hotMinutes) (maxL := 2) (ret := some .int) (by decide +kernel) rfl (Nat.le_of_ble_eq_true rfl) ?_
  intro p e s m below meth c args hx hb hr hml hts hown hlocks hin hK hN A hA9 Q hQ9 hP hD hsz hS hA ls hl
  have hl : lv_has ls 2 [(0, .ref (x 0)), (1, .int (nI z))] := hl
  have hi_X2 : ∀ w ∈ u_ws RX2 TX2 5, w ∈ wsX2_hotMinutes := by decide +kernel
  obtain ⟨H, hH9⟩ : ∃ H, H = s.heap := ⟨_, rfl⟩
  rw [← hH9] at hP ⊢
  have hS : va_S A s.heap H [] := by rw [hH9]; exact va_S.rf
  refine lv_iload_n hx hb dX2_hotMinutes_0 rfl (lv_at hl 1 rfl) ?_
  refine kCall_v (W0 := []) (W1 := []) hP hD hS hA [] rfl rfl (va_runS (As := [.int (nI z)]) (rest := []) ⟨hx, hb, hml, hown, hts⟩ (c_X2_requireZone l D cI cZ cO cJ (nI z) H.size (nI_nlt (by omega) (by omega)) (nI_le (by omega) (by decide))) (va_cwS (rm := rmX2_requireZone) 1 hts gX2_hotMinutes_X2_requireZone rfl rfl rfl (by decide +kernel) ⟨Nat.le_of_ble_eq_true rfl, Nat.le_of_ble_eq_true rfl⟩) (kPreS hK hN hP hD [] rfl rfl) rfl rfl hl.1 rfl (lv_room (Nat.le_of_ble_eq_true rfl)) dX2_hotMinutes_1 ⟨Nat.zero_le _, Nat.zero_le _⟩) (fun H locs hP hD hS => ?_)
  have hP : va_P D vwCl (wC cI cZ cO x a t b ck Ho T E Dm F S C la T1 E1 D1 F1 S1 C1 la1 Lo Se Ef gp gi am li dl) H := hP
  have hD : va_D A (wC cI cZ cO x a t b ck Ho T E Dm F S C la T1 E1 D1 F1 S1 C1 la1 Lo Se Ef gp gi am li dl) := hD
  refine lv_aload_n hx hb dX2_hotMinutes_4 rfl (lv_at hl 0 rfl) ?_
  refine va_get (D := D) (ci := 2) (v := .ref (x 1)) (C := RX2) (T := TX2) (N := 5) hx hb hts hi_X2 hown hK hP 0 rfl rfl 3 (by decide) (hts (.fieldLink RX2 26 "Coldaisle" "hotMinutes" "[I") (by decide +kernel)) (fun _ h9 => h9) rfl dX2_hotMinutes_5 ?_
  refine lv_iload_n hx hb dX2_hotMinutes_8 rfl (lv_at hl 1 rfl) ?_
  refine k_iald hx hb hK hP 1 0 rfl rfl (i := z) (by omega) (by decide) dX2_hotMinutes_9 ?_
  subst hQ9
  subst hA9
  exact kRet_i hx hb hr hlocks hP hS dX2_hotMinutes_10 rfl

abbrev rmX2_hottest : Room := { frames := 0, cells := 0, slots := 0, locals := 0 }
set_option maxHeartbeats 4000000 in
set_option maxRecDepth 100000 in
/-- hottest -/
theorem c_X2_hottest (l : Launch) (D : va_G) (cI cZ cO cJ : ClassId) (x a t b : Nat → Nat) (ck : Nat) (Ho T E Dm F S : Nat → Int32) (C : Nat → Nat → Int32) (la : Nat) (T1 E1 D1 F1 S1 : Nat → Int32) (C1 : Nat → Nat → Int32) (la1 : Nat) (Lo Se : Nat → Int32) (Ef : Nat → Nat → Int32) (gp gi am li : Int32) (dl : Nat) (sz : Nat) : kMi l yX2_hottest wsX2_hottest rmX2_hottest D (kT cI cZ cO cJ) [.ref (x 0)] (wC cI cZ cO x a t b ck Ho T E Dm F S C la T1 E1 D1 F1 S1 C1 la1 Lo Se Ef gp gi am li dl) (wC cI cZ cO x a t b ck Ho T E Dm F S C la T1 E1 D1 F1 S1 C1 la1 Lo Se Ef gp gi am li dl) sz (nI (mBest T 5)) := by
  refine kEnter (cc := cX2_hottest) (maxL := 3) (ret := some .int) (by decide +kernel) rfl (Nat.le_of_ble_eq_true rfl) ?_
  intro p e s m below meth c args hx hb hr hml hts hown hlocks hin hK hN A hA9 Q hQ9 hP hD hsz hS hA ls hl
  have hl : lv_has ls 3 [(0, .ref (x 0))] := hl
  have hi_X2 : ∀ w ∈ u_ws RX2 TX2 5, w ∈ wsX2_hottest := by decide +kernel
  have hi_X0 : ∀ w ∈ u_ws RX0 TX0 7, w ∈ wsX2_hottest := by decide +kernel
  obtain ⟨H, hH9⟩ : ∃ H, H = s.heap := ⟨_, rfl⟩
  rw [← hH9] at hP ⊢
  have hS : va_S A s.heap H [] := by rw [hH9]; exact va_S.rf
  refine lv_iconst (v := nI 0) hx hb dX2_hottest_0 (by decide +kernel) ?_
  refine lv_istore_n (lv' := [(1, .int (nI 0)), (0, .ref (x 0))]) hx hb dX2_hottest_1 rfl hl (by decide) rfl (fun ls hl => ?_)
  refine lv_iconst (v := nI 1) hx hb dX2_hottest_2 (by decide +kernel) ?_
  refine lv_istore_n (lv' := [(2, .int (nI 1)), (1, .int (nI 0)), (0, .ref (x 0))]) hx hb dX2_hottest_3 rfl hl (by decide) rfl (fun ls hl => ?_)
  have lp : ∀ (n z : Nat), z + n = 5 → ∀ (H : Heap) (locs : List Loc), va_P D vwCl (wC cI cZ cO x a t b ck Ho T E Dm F S C la T1 E1 D1 F1 S1 C1 la1 Lo Se Ef gp gi am li dl) H → va_D A (wC cI cZ cO x a t b ck Ho T E Dm F S C la T1 E1 D1 F1 S1 C1 la1 Lo Se Ef gp gi am li dl) → va_S A s.heap H locs → ∀ ls : Array Slot, lv_has ls 3 [(0, .ref (x 0)), (1, .int (nI (mBest T z))), (2, .int (nI (z + 1)))] → W p l e rmX2_hottest s m args below meth c H locs 0 0 Q (F0 m 4 ls []) := by
    intro n
    induction n with
    | zero =>
      intro z hz H locs hP hD hS ls hl
      have hz9 : z = 5 := by omega
      subst hz9
      refine lv_iload_n hx hb dX2_hottest_4 rfl (lv_at hl 2 rfl) ?_
      refine lv_bipush (v := nI 6) hx hb dX2_hottest_5 (by decide +kernel) ?_
      refine lv_icmp_ge (tgt := 39) hx hb dX2_hottest_7 (by decide) (fun _ => ?_) (fun c9 => absurd (nI_le (Nat.le_refl 6) (by decide)) c9)
      refine lv_iload_n hx hb dX2_hottest_39 rfl (lv_at hl 1 rfl) ?_
      subst hQ9
      subst hA9
      exact kRet_i hx hb hr hlocks hP hS dX2_hottest_40 rfl
    | succ n ih =>
      intro z hz H locs hP hD hS ls hl
      have hzb : z < 5 := by omega
      have hb9 := mBest_le T z
      refine lv_iload_n hx hb dX2_hottest_4 rfl (lv_at hl 2 rfl) ?_
      refine lv_bipush (v := nI 6) hx hb dX2_hottest_5 (by decide +kernel) ?_
      refine lv_icmp_ge (tgt := 39) hx hb dX2_hottest_7 (by decide) (fun c9 => absurd c9 (nI_ge (by omega) (by decide))) (fun _ => ?_)
      refine lv_aload_n hx hb dX2_hottest_10 rfl (lv_at hl 0 rfl) ?_
      refine va_get (D := D) (ci := 2) (v := .ref (a 0)) (C := RX2) (T := TX2) (N := 5) hx hb hts hi_X2 hown hK hP 0 rfl rfl 1 (by decide) (hts (.fieldLink RX2 19 "Coldaisle" "hall" "LColdaisle$Hall;") (by decide +kernel)) (fun _ h9 => h9) rfl dX2_hottest_11 ?_
      refine va_get (D := D) (ci := 0) (v := .ref (a 1)) (C := RX0) (T := TX0) (N := 7) hx hb hts hi_X0 hown hK hP 2 rfl rfl 0 (by decide) (hts (.fieldLink RX2 110 "Coldaisle$Hall" "temperature" "[I") (by decide +kernel)) (fun _ h9 => h9) rfl dX2_hottest_14 ?_
      refine lv_iload_n hx hb dX2_hottest_17 rfl (lv_at hl 2 rfl) ?_
      refine k_iald hx hb hK hP 3 0 rfl rfl (i := z + 1) (by omega) (by decide) dX2_hottest_18 ?_
      refine lv_aload_n hx hb dX2_hottest_19 rfl (lv_at hl 0 rfl) ?_
      refine va_get (D := D) (ci := 2) (v := .ref (a 0)) (C := RX2) (T := TX2) (N := 5) hx hb hts hi_X2 hown hK hP 0 rfl rfl 1 (by decide) (hts (.fieldLink RX2 19 "Coldaisle" "hall" "LColdaisle$Hall;") (by decide +kernel)) (fun _ h9 => h9) rfl dX2_hottest_20 ?_
      refine va_get (D := D) (ci := 0) (v := .ref (a 1)) (C := RX0) (T := TX0) (N := 7) hx hb hts hi_X0 hown hK hP 2 rfl rfl 0 (by decide) (hts (.fieldLink RX2 110 "Coldaisle$Hall" "temperature" "[I") (by decide +kernel)) (fun _ h9 => h9) rfl dX2_hottest_23 ?_
      refine lv_iload_n hx hb dX2_hottest_26 rfl (lv_at hl 1 rfl) ?_
      refine k_iald hx hb hK hP 3 0 rfl rfl (i := mBest T z) (by omega) (by decide) dX2_hottest_27 ?_
      refine lv_icmp_le (tgt := 33) hx hb dX2_hottest_28 (by decide) (fun c1 => ?_) (fun c1 => ?_)
      · refine lv_iinc (v := nI (z + 1 + 1)) (lv' := [(2, .int (nI (z + 1 + 1))), (0, .ref (x 0)), (1, .int (nI (mBest T z)))]) hx hb dX2_hottest_33 hl (k := 2) rfl (k_inc _) (by decide) rfl (fun ls hl => ?_)
        refine lv_goto (tgt := 4) hx hb dX2_hottest_36 (by decide) ?_
        exact ih (z + 1) (by omega) H locs hP hD hS ls (by rw [mBest_t T z c1]; exact (lv_sub hl [1, 2, 0] rfl))
      · refine lv_iload_n hx hb dX2_hottest_31 rfl (lv_at hl 2 rfl) ?_
        refine lv_istore_n (lv' := [(1, .int (nI (z + 1))), (0, .ref (x 0)), (2, .int (nI (z + 1)))]) hx hb dX2_hottest_32 rfl hl (by decide) rfl (fun ls hl => ?_)
        refine lv_iinc (v := nI (z + 1 + 1)) (lv' := [(2, .int (nI (z + 1 + 1))), (1, .int (nI (z + 1))), (0, .ref (x 0))]) hx hb dX2_hottest_33 hl (k := 2) rfl (k_inc _) (by decide) rfl (fun ls hl => ?_)
        refine lv_goto (tgt := 4) hx hb dX2_hottest_36 (by decide) ?_
        exact ih (z + 1) (by omega) H locs hP hD hS ls (by rw [mBest_f T z c1]; exact (lv_sub hl [2, 1, 0] rfl))
  exact lp 5 0 rfl H [] hP hD hS ls (lv_sub hl [2, 1, 0] rfl)

abbrev rmX2_noteHotZones : Room := { frames := 0, cells := 0, slots := 0, locals := 0 }
set_option maxHeartbeats 4000000 in
set_option maxRecDepth 100000 in
/-- noteHotZones -/
theorem c_X2_noteHotZones (l : Launch) (D : va_G) (cI cZ cO cJ : ClassId) (x a t b : Nat → Nat) (ck : Nat) (Ho T E Dm F S : Nat → Int32) (C : Nat → Nat → Int32) (la : Nat) (T1 E1 D1 F1 S1 : Nat → Int32) (C1 : Nat → Nat → Int32) (la1 : Nat) (Lo Se : Nat → Int32) (Ef : Nat → Nat → Int32) (gp gi am li : Int32) (dl : Nat) (sz : Nat) : kMi l yX2_noteHotZones wsX2_noteHotZones rmX2_noteHotZones D (kT cI cZ cO cJ) [.ref (x 0)] (wC cI cZ cO x a t b ck Ho T E Dm F S C la T1 E1 D1 F1 S1 C1 la1 Lo Se Ef gp gi am li dl) (wC cI cZ cO x a t b ck (mFl 6 (mHo li T Ho) Ho) T E Dm F S C la T1 E1 D1 F1 S1 C1 la1 Lo Se Ef gp gi am li dl) sz (mNot li T 6) := by
  refine kEnter (cc := cX2_noteHotZones) (maxL := 3) (ret := some .int) (by decide +kernel) rfl (Nat.le_of_ble_eq_true rfl) ?_
  intro p e s m below meth c args hx hb hr hml hts hown hlocks hin hK hN A hA9 Q hQ9 hP hD hsz hS hA ls hl
  have hl : lv_has ls 3 [(0, .ref (x 0))] := hl
  have hi_X2 : ∀ w ∈ u_ws RX2 TX2 5, w ∈ wsX2_noteHotZones := by decide +kernel
  have hi_X0 : ∀ w ∈ u_ws RX0 TX0 7, w ∈ wsX2_noteHotZones := by decide +kernel
  have hi_X1 : ∀ w ∈ u_ws RX1 TX1 8, w ∈ wsX2_noteHotZones := by decide +kernel
  obtain ⟨H, hH9⟩ : ∃ H, H = s.heap := ⟨_, rfl⟩
  rw [← hH9] at hP ⊢
  have hS : va_S A s.heap H [] := by rw [hH9]; exact va_S.rf
  refine lv_iconst (v := nI 0) hx hb dX2_noteHotZones_0 (by decide +kernel) ?_
  refine lv_istore_n (lv' := [(1, .int (nI 0)), (0, .ref (x 0))]) hx hb dX2_noteHotZones_1 rfl hl (by decide) rfl (fun ls hl => ?_)
  refine lv_iconst (v := nI 0) hx hb dX2_noteHotZones_2 (by decide +kernel) ?_
  refine lv_istore_n (lv' := [(2, .int (nI 0)), (1, .int (nI 0)), (0, .ref (x 0))]) hx hb dX2_noteHotZones_3 rfl hl (by decide) rfl (fun ls hl => ?_)
  have lp : ∀ (n z : Nat), z + n = 6 → ∀ (H : Heap) (locs : List Loc), va_P D vwCl (wC cI cZ cO x a t b ck (mFl z (mHo li T Ho) Ho) T E Dm F S C la T1 E1 D1 F1 S1 C1 la1 Lo Se Ef gp gi am li dl) H → va_D A (wC cI cZ cO x a t b ck (mFl z (mHo li T Ho) Ho) T E Dm F S C la T1 E1 D1 F1 S1 C1 la1 Lo Se Ef gp gi am li dl) → va_S A s.heap H locs → ∀ ls : Array Slot, lv_has ls 3 [(0, .ref (x 0)), (1, .int (mNot li T z)), (2, .int (nI z))] → W p l e rmX2_noteHotZones s m args below meth c H locs 0 0 Q (F0 m 4 ls []) := by
    intro n
    induction n with
    | zero =>
      intro z hz H locs hP hD hS ls hl
      have hz9 : z = 6 := by omega
      subst hz9
      refine lv_iload_n hx hb dX2_noteHotZones_4 rfl (lv_at hl 2 rfl) ?_
      refine lv_bipush (v := nI 6) hx hb dX2_noteHotZones_5 (by decide +kernel) ?_
      refine lv_icmp_ge (tgt := 48) hx hb dX2_noteHotZones_7 (by decide) (fun _ => ?_) (fun c9 => absurd (nI_le (Nat.le_refl 6) (by decide)) c9)
      refine lv_iload_n hx hb dX2_noteHotZones_48 rfl (lv_at hl 1 rfl) ?_
      subst hQ9
      subst hA9
      exact kRet_i hx hb hr hlocks hP hS dX2_noteHotZones_49 rfl
    | succ n ih =>
      intro z hz H locs hP hD hS ls hl
      have hzb : z < 6 := by omega
      refine lv_iload_n hx hb dX2_noteHotZones_4 rfl (lv_at hl 2 rfl) ?_
      refine lv_bipush (v := nI 6) hx hb dX2_noteHotZones_5 (by decide +kernel) ?_
      refine lv_icmp_ge (tgt := 48) hx hb dX2_noteHotZones_7 (by decide) (fun c9 => absurd c9 (nI_ge hzb (by decide))) (fun _ => ?_)
      refine lv_aload_n hx hb dX2_noteHotZones_10 rfl (lv_at hl 0 rfl) ?_
      refine va_get (D := D) (ci := 2) (v := .ref (a 0)) (C := RX2) (T := TX2) (N := 5) hx hb hts hi_X2 hown hK hP 0 rfl rfl 1 (by decide) (hts (.fieldLink RX2 19 "Coldaisle" "hall" "LColdaisle$Hall;") (by decide +kernel)) (fun _ h9 => h9) rfl dX2_noteHotZones_11 ?_
      refine va_get (D := D) (ci := 0) (v := .ref (a 1)) (C := RX0) (T := TX0) (N := 7) hx hb hts hi_X0 hown hK hP 2 rfl rfl 0 (by decide) (hts (.fieldLink RX2 110 "Coldaisle$Hall" "temperature" "[I") (by decide +kernel)) (fun _ h9 => h9) rfl dX2_noteHotZones_14 ?_
      refine lv_iload_n hx hb dX2_noteHotZones_17 rfl (lv_at hl 2 rfl) ?_
      refine k_iald hx hb hK hP 3 0 rfl rfl (i := z) (by omega) (by decide) dX2_noteHotZones_18 ?_
      refine lv_aload_n hx hb dX2_noteHotZones_19 rfl (lv_at hl 0 rfl) ?_
      refine va_get (D := D) (ci := 2) (v := .ref (b 0)) (C := RX2) (T := TX2) (N := 5) hx hb hts hi_X2 hown hK hP 0 rfl rfl 0 (by decide) (hts (.fieldLink RX2 10 "Coldaisle" "settings" "LColdaisle$Settings;") (by decide +kernel)) (fun _ h9 => h9) rfl dX2_noteHotZones_20 ?_
      refine va_get (D := D) (ci := 1) (v := .int li) (C := RX1) (T := TX1) (N := 8) hx hb hts hi_X1 hown hK hP 16 rfl rfl 6 (by decide) (hts (.fieldLink RX2 67 "Coldaisle$Settings" "limit" "I") (by decide +kernel)) (fun _ h9 => h9) rfl dX2_noteHotZones_23 ?_
      refine lv_icmp_le (tgt := 42) hx hb dX2_noteHotZones_26 (by decide) (fun c1 => ?_) (fun c1 => ?_)
      · have e9 : mFl z (mHo li T Ho) Ho = mFl (z + 1) (mHo li T Ho) Ho := by rw [← mFl_up z (mHo li T Ho) Ho, show mHo li T Ho z = Ho z from if_pos c1]; exact (upd_same _ _ _ (mFl_at z (mHo li T Ho) Ho)).symm
        rw [e9] at hP hD
        refine lv_iinc (v := nI (z + 1)) (lv' := [(2, .int (nI (z + 1))), (0, .ref (x 0)), (1, .int (mNot li T z))]) hx hb dX2_noteHotZones_42 hl (k := 2) rfl (k_inc _) (by decide) rfl (fun ls hl => ?_)
        refine lv_goto (tgt := 4) hx hb dX2_noteHotZones_45 (by decide) ?_
        exact ih (z + 1) (by omega) H locs hP hD hS ls (by rw [mNot_t li T z c1]; exact (lv_sub hl [1, 2, 0] rfl))
      · refine lv_aload_n hx hb dX2_noteHotZones_29 rfl (lv_at hl 0 rfl) ?_
        refine va_get (D := D) (ci := 2) (v := .ref (x 1)) (C := RX2) (T := TX2) (N := 5) hx hb hts hi_X2 hown hK hP 0 rfl rfl 3 (by decide) (hts (.fieldLink RX2 26 "Coldaisle" "hotMinutes" "[I") (by decide +kernel)) (fun _ h9 => h9) rfl dX2_noteHotZones_30 ?_
        refine lv_iload_n hx hb dX2_noteHotZones_33 rfl (lv_at hl 2 rfl) ?_
        refine lv_dup2_11 hx hb dX2_noteHotZones_34 rfl rfl ?_
        refine k_iald hx hb hK hP 1 0 rfl rfl (i := z) (by omega) (by decide) dX2_noteHotZones_35 ?_
        refine k_as (mFl_at z (mHo li T Ho) Ho) ?_
        refine lv_iconst (v := nI 1) hx hb dX2_noteHotZones_36 (by decide +kernel) ?_
        refine lv_iadd hx hb dX2_noteHotZones_37 ?_
        refine k_iast hx hb hK hP hD hS 1 0 rfl rfl (i := z) (x := (Ho z) + (nI 1)) (by omega) (by decide) dX2_noteHotZones_38 (fun H locs hP hD hS => ?_)
        have hP : va_P D vwCl (wC cI cZ cO x a t b ck (upd (mFl z (mHo li T Ho) Ho) z ((Ho z) + (nI 1))) T E Dm F S C la T1 E1 D1 F1 S1 C1 la1 Lo Se Ef gp gi am li dl) H := hP
        have hD : va_D A (wC cI cZ cO x a t b ck (upd (mFl z (mHo li T Ho) Ho) z ((Ho z) + (nI 1))) T E Dm F S C la T1 E1 D1 F1 S1 C1 la1 Lo Se Ef gp gi am li dl) := hD
        refine lv_iinc (v := (mNot li T z) + 1) (lv' := [(1, .int ((mNot li T z) + 1)), (0, .ref (x 0)), (2, .int (nI z))]) hx hb dX2_noteHotZones_39 hl (k := 1) rfl rfl (by decide) rfl (fun ls hl => ?_)
        have hP : va_P D vwCl (wC cI cZ cO x a t b ck (mFl (z + 1) (mHo li T Ho) Ho) T E Dm F S C la T1 E1 D1 F1 S1 C1 la1 Lo Se Ef gp gi am li dl) H := by rw [← mFl_up z (mHo li T Ho) Ho, show mHo li T Ho z = Ho z + nI 1 from if_neg c1]; exact hP
        have hD : va_D A (wC cI cZ cO x a t b ck (mFl (z + 1) (mHo li T Ho) Ho) T E Dm F S C la T1 E1 D1 F1 S1 C1 la1 Lo Se Ef gp gi am li dl) := by rw [← mFl_up z (mHo li T Ho) Ho, show mHo li T Ho z = Ho z + nI 1 from if_neg c1]; exact hD
        refine lv_iinc (v := nI (z + 1)) (lv' := [(2, .int (nI (z + 1))), (1, .int ((mNot li T z) + 1)), (0, .ref (x 0))]) hx hb dX2_noteHotZones_42 hl (k := 2) rfl (k_inc _) (by decide) rfl (fun ls hl => ?_)
        refine lv_goto (tgt := 4) hx hb dX2_noteHotZones_45 (by decide) ?_
        exact ih (z + 1) (by omega) H locs hP hD hS ls (by rw [mNot_f li T z c1]; exact (lv_sub hl [2, 1, 0] rfl))
  exact lp 6 0 rfl H [] (by simp only [mFl_0]; exact hP) (by simp only [mFl_0]; exact hD) hS ls (lv_sub hl [2, 1, 0] rfl)
end
section
/-! ===== runs of minutes, and what would be ===== -/
abbrev HS : Type := (Nat → Int32) × (Nat → Int32) × (Nat → Int32) × (Nat → Int32) × (Nat → Int32) × (Nat → Nat → Int32) × Nat
abbrev sT (σ : HS) : Nat → Int32 := σ.1
abbrev sE (σ : HS) : Nat → Int32 := σ.2.1
abbrev sD (σ : HS) : Nat → Int32 := σ.2.2.1
abbrev sF (σ : HS) : Nat → Int32 := σ.2.2.2.1
abbrev sS (σ : HS) : Nat → Int32 := σ.2.2.2.2.1
abbrev sC (σ : HS) : Nat → Nat → Int32 := σ.2.2.2.2.2.1
abbrev sL (σ : HS) : Nat := σ.2.2.2.2.2.2
def hStep (gp gi am : Int32) (Lo Se : Nat → Int32) (Ef : Nat → Nat → Int32) (dl : Nat) (σ : HS) : HS :=
  (nT gp gi am (sT σ) (sE σ) (sD σ) (sF σ) (sS σ) (sC σ) (sL σ) Lo Se Ef dl, nE (sT σ) (sE σ) Se, nD gp gi (sT σ) (sE σ) (sD σ) (sF σ) Se Ef, sF σ, nS gp gi (sT σ) (sE σ) (sD σ) (sF σ) (sS σ) (sC σ) (sL σ) Se Ef dl, nC gp gi (sT σ) (sE σ) (sD σ) (sF σ) (sC σ) (sL σ) Se Ef, (sL σ + 1) % 9)
def hRun (gp gi am : Int32) (Lo Se : Nat → Int32) (Ef : Nat → Nat → Int32) (dl : Nat) : Nat → HS → HS
  | 0, σ => σ
  | n + 1, σ => hStep gp gi am Lo Se Ef dl (hRun gp gi am Lo Se Ef dl n σ)
theorem hRun_la {gp gi am : Int32} {Lo Se : Nat → Int32} {Ef : Nat → Nat → Int32} {dl : Nat} {σ : HS} (h : sL σ < 9) : ∀ n : Nat, sL (hRun gp gi am Lo Se Ef dl n σ) < 9
  | 0 => h
  | n + 1 => Nat.mod_lt _ (by decide)
def hFail (σ : HS) (f : Nat) : HS := (sT σ, sE σ, sD σ, upd (sF σ) f (nI 1), upd (sS σ) f (nI 0), sC σ, sL σ)
def pHo (li : Int32) (f : Nat → Nat → Int32) (Ho : Nat → Int32) : Nat → Nat → Int32
  | 0 => Ho
  | k + 1 => mFl 6 (mHo li (f (k + 1)) (pHo li f Ho k)) (pHo li f Ho k)
def pSum (li : Int32) (f : Nat → Nat → Int32) : Nat → Int32
  | 0 => nI 0
  | k + 1 => pSum li f k + mNot li (f (k + 1)) 6
def gTop (f : Nat → Int32) : Nat → Int32
  | 0 => f 0
  | k + 1 => mMax (gTop f k) (f (k + 1))
def gOf (gp gi am : Int32) (Lo Se : Nat → Int32) (Ef : Nat → Nat → Int32) (dl : Nat) (σ : HS) (z m : Nat) : Int32 := gTop (fun k => sT (hRun gp gi am Lo Se Ef dl (k + 1) σ) z) m
def crit (F g : Nat → Int32) : Nat → Int32 × Int32
  | 0 => ((-1), nI 0)
  | n + 1 => if F n = 0 then (if (crit F g n).1 = (-1) then (nI n, g n) else if g n ≤ (crit F g n).2 then crit F g n else (nI n, g n)) else crit F g n
theorem crit_a (F g : Nat → Int32) (n : Nat) (h : ¬ F n = 0) : crit F g (n + 1) = crit F g n := by
  show (if F n = 0 then _ else _) = _
  rw [if_neg h]
theorem crit_b (F g : Nat → Int32) (n : Nat) (h : F n = 0) (h2 : (crit F g n).1 = (-1)) : crit F g (n + 1) = (nI n, g n) := by
  show (if F n = 0 then _ else _) = _
  rw [if_pos h, if_pos h2]
theorem crit_c (F g : Nat → Int32) (n : Nat) (h : F n = 0) (h2 : ¬ (crit F g n).1 = (-1)) (h3 : g n ≤ (crit F g n).2) : crit F g (n + 1) = crit F g n := by
  show (if F n = 0 then _ else _) = _
  rw [if_pos h, if_neg h2, if_pos h3]
theorem crit_d (F g : Nat → Int32) (n : Nat) (h : F n = 0) (h2 : ¬ (crit F g n).1 = (-1)) (h3 : ¬ g n ≤ (crit F g n).2) : crit F g (n + 1) = (nI n, g n) := by
  show (if F n = 0 then _ else _) = _
  rw [if_pos h, if_neg h2, if_neg h3]
theorem crit_or (F g : Nat → Int32) : ∀ n : Nat, (crit F g n).1 = (-1) ∨ ∃ f : Nat, f < n ∧ (crit F g n).1 = nI f
  | 0 => Or.inl rfl
  | n + 1 => by
    have up : ((crit F g n).1 = (-1) ∨ ∃ f : Nat, f < n ∧ (crit F g n).1 = nI f) → ((crit F g n).1 = (-1) ∨ ∃ f : Nat, f < n + 1 ∧ (crit F g n).1 = nI f) := by
      rintro (h | ⟨f, h1, h2⟩)
      · exact Or.inl h
      · exact Or.inr ⟨f, Nat.lt_succ_of_lt h1, h2⟩
    by_cases h : F n = 0
    · by_cases h2 : (crit F g n).1 = (-1)
      · rw [crit_b F g n h h2]; exact Or.inr ⟨n, Nat.lt_succ_self n, rfl⟩
      · by_cases h3 : g n ≤ (crit F g n).2
        · rw [crit_c F g n h h2 h3]; exact up (crit_or F g n)
        · rw [crit_d F g n h h2 h3]; exact Or.inr ⟨n, Nat.lt_succ_self n, rfl⟩
    · rw [crit_a F g n h]; exact up (crit_or F g n)
theorem nI_m1 {f : Nat} (h : f < 2 ^ 31) : ¬ nI f = (-1) := by
  intro q
  have h1 := congrArg Int32.toInt q
  rw [nI_toInt h, show ((-1 : Int32)).toInt = -1 from by decide +kernel] at h1
  omega
def gAny (gp gi am : Int32) (Lo Se : Nat → Int32) (Ef : Nat → Nat → Int32) (dl : Nat) (σ : HS) (z m : Nat) (fv : Int32) : Int32 :=
  if fv = (-1) then gOf gp gi am Lo Se Ef dl σ z m else gOf gp gi am Lo Se Ef dl (hFail σ fv.toNatClampNeg) z m
theorem gAny_f {gp gi am : Int32} {Lo Se : Nat → Int32} {Ef : Nat → Nat → Int32} {dl : Nat} {σ : HS} {z m f : Nat} (h : f < 2 ^ 31) : gAny gp gi am Lo Se Ef dl σ z m (nI f) = gOf gp gi am Lo Se Ef dl (hFail σ f) z m := by
  unfold gAny
  rw [if_neg (nI_m1 h), nI_clamp h]
/-! ===== rows for a copy and for what a call leaves open ===== -/
theorem arrV_cg {cA : ClassId} {N : Nat} {f g : Nat → Value} (h : ∀ j, j < N → f j = g j) : arrV cA N f = arrV cA N g := by
  unfold arrV
  congr 1
  apply congrArg Array.ofFn
  funext j
  exact h j.val j.isLt
theorem va_P_cg {D : va_G} {ws : va_W} {H : Heap} {k a n : Nat} {cA : ClassId} {f g : Nat → Int32} (hP : va_P D vwCl (ws.set k (a, .inl (cA, n, .inl f))) H) (h : ∀ j, j < n → f j = g j) : va_P D vwCl (ws.set k (a, .inl (cA, n, .inl g))) H := by
  intro i q hq
  by_cases e : k = i
  · subst e
    have hl : k < ws.length := by
      have := (List.getElem?_eq_some_iff.mp hq).1
      simpa using this
    rw [List.getElem?_set_self hl] at hq
    have h1 := hP k _ (List.getElem?_set_self hl)
    have h2 : q = (a, .inl (cA, n, .inl g)) := (Option.some.inj hq).symm
    subst h2
    have h3 : H[a]? = some (arrV cA n (fun j => .int (f j))) := h1
    show H[a]? = some (arrV cA n (fun j => .int (g j)))
    rw [h3]
    exact congrArg some (arrV_cg (fun j hj => by rw [h j hj]))
  · rw [List.getElem?_set_ne e] at hq
    exact hP i q (by rw [List.getElem?_set_ne e]; exact hq)
theorem va_D_cg {A : Nat → Prop} {ws : va_W} {k a n : Nat} {cA : ClassId} {f g : Nat → Int32} (hD : va_D A (ws.set k (a, .inl (cA, n, .inl f)))) : va_D A (ws.set k (a, .inl (cA, n, .inl g))) :=
  kfull hD (by rw [List.map_set, List.map_set])
def kBE {S : Type} (D : va_G) (W1 : S → va_W) : S → State → Prop := fun u t => va_P D vwCl (W1 u) t.heap
abbrev kME {S : Type} (l : Launch) (y : MethodName) (ws : List Cond) (rm : Room) (D : va_G) (tys : List (ClassId × FieldType)) (av : List Value) (W0 : va_W) (W1 : S → va_W) (sz : Nat) (r : Int32) : Prop :=
  Met l y ws rm (va_Pc av (kPre D tys W0 sz)) (va_Qi (fun (x : Int32) (_ : S) => x = r) (kBE D W1) (va_A W0 sz)) 0 0 (va_A W0 sz)
section KR3
variable {p : Program} {l : Launch} {e : Env} {R : Room} {s : State} {m : MethodId} {args : Array Value} {below : List Frame} {meth : Method} {c : Code} {H : Heap} {locs : List Loc} {cells slots : Nat} {Q : State → Prop}
variable {pc : Nat} {ls : Array Slot} {rest st0 : List Value} {a : Array Value} {A0 : Nat → Prop} {H0 : Heap} {D : va_G} {ws W0 : va_W} {cc : ByteArray} {tys : List (ClassId × FieldType)}
theorem k_cpy (hx : p.tables.exec = Jvm.exec) (hb : c.code = cc) (hml : c.maxLocals = ls.size) {own : String} {index : Nat} (hown : s.vm.findClass own = some m.cls) (hlink : (Cond.methodLink own index arraycopyName).before args s = true) (hnat : (Cond.native arraycopyName).before args s = true) (hstat : (Cond.static arraycopyName).before args s = true) (hini : (Cond.initialized "java/lang/System").before args s = true)
    (hK : va_K D vwCl tys s) (hP : va_P D vwCl ws H) (hD : va_D A0 ws) (hS : va_S A0 H0 H locs) (q0 q1 t0 : Nat) {ar a0 : Nat} {c0 c1 : ClassId} {N : Nat} {f g : Nat → Int32} (ha0 : ws[q0]? = some (a0, .inl (c0, N, .inl f))) (ha1 : ws[q1]? = some (ar, .inl (c1, N, .inl g))) (ht0 : tys[t0]? = some (c0, .int)) (ht1 : tys[t0]? = some (c1, .int)) (hN : N < 2 ^ 31)
    (hframes : 1 ≤ R.frames) (hlocals : (rest.map fun v => v.category).sum + (nativeFrameWords "java/lang/System" "arraycopy" 5 + 11) ≤ R.locals) (hdg : decode cc pc = .ok (.invokestatic index, 3))
    (kk : ∀ (H1 : Heap) (locs1 : List Loc), va_P D vwCl (ws.set q1 (ar, .inl (c1, N, .inl f))) H1 → va_D A0 (ws.set q1 (ar, .inl (c1, N, .inl f))) → va_S A0 H0 H1 locs1 → W p l e R s m args below meth c H1 locs1 cells slots Q (F0 m (pc + 3) ls rest)) : W p l e R s m args below meth c H locs cells slots Q (F0 m pc ls (.int (nI N) :: .int (nI 0) :: .ref ar :: .int (nI 0) :: .ref a0 :: rest)) := by
  have e0 : (nI 0).toNatClampNeg = 0 := nI_clamp (by decide)
  have eN : (nI N).toNatClampNeg = N := nI_clamp hN
  refine va_copyi hx hb hml hown hlink hnat hstat hini hK hP hD hS q0 q1 t0 t0 ha0 ha1 ht0 ht1 rfl (nI_pos (by decide)) (nI_pos (by decide)) (nI_pos hN) (by rw [e0, eN]; omega) (by rw [e0, eN]; omega) (fun i _ => rfl) hframes hlocals hdg (fun H1 locs1 hP1 hD1 hS1 => ?_)
  rw [e0, eN] at hP1 hD1
  exact kk H1 locs1 (va_P_cg hP1 (fun j hj => sb_cpy0 hj)) (va_D_cg hD1) hS1
theorem kRetE_i {S : Type} {W1 : S → va_W} (u : S) {sz : Nat} {v r : Int32} (hx : p.tables.exec = Jvm.exec) (hb : c.code = cc) (hr : meth.sig.returnType = some .int) (hlocks : meth.locks = false) (hP : va_P D vwCl (W1 u) H) (hS : va_S (va_A W0 sz) s.heap H locs) (hdg : decode cc pc = .ok (.ireturn, 1)) (he : v = r) :
    W p l e R s m args below meth c H locs 0 0 (MQ below (va_Qi (fun (x : Int32) (_ : S) => x = r) (kBE D W1) (va_A W0 sz)) args s 0 0 (va_A W0 sz)) (F0 m pc ls [.int v]) := by
  subst he
  exact W.iret (v := v) hx hb hr (fun t ht hW => ⟨⟨v, u, rfl, rfl, by show va_P D vwCl (W1 u) t.heap; rw [ht]; exact hP⟩, hS.F ht⟩) hS.2.2 hdg hlocks
theorem kCallWE_i {S : Type} {W1 : S → va_W} {r : Int32} (hD : va_D A0 ws) (hS : va_S A0 H0 H locs) (hA : ∀ q, H0.size ≤ q → A0 q) (hF : ∀ u, (W1 u).map (·.1) = ws.map (·.1))
    (hr : va_Run p l e R s m args below meth c H locs cells slots 0 0 (F0 m pc ls st0) rest (va_Qi (fun (x : Int32) (_ : S) => x = r) (kBE D W1) (va_A ws H.size) a) (va_A ws H.size))
    (kk : ∀ (u : S) (H1 : Heap) (locs1 : List Loc), va_P D vwCl (W1 u) H1 → va_D A0 (W1 u) → va_S A0 H0 H1 locs1 → W p l e R s m args below meth c H1 locs1 cells slots Q (F0 m (pc + 3) ls (.int r :: rest))) : W p l e R s m args below meth c H locs cells slots Q (F0 m pc ls st0) := by
  have hFc := kfree hD hS hA
  refine va_calli hr hS (fun q _ h => hFc q h) hFc (fun x u t H1 locs1 ht hvm hx hB hz hk hS1 => ?_)
  subst hx
  have hB : va_P D vwCl (W1 u) t.heap := hB
  rw [ht] at hB
  exact kk u H1 locs1 hB (kfull hD (hF u)) hS1
end KR3
def mFr (n : Nat) (C C1 : Nat → Nat → Int32) : Nat → Nat → Int32 := fun j => if j < n then C j else C1 j
theorem mFr_0 (C C1 : Nat → Nat → Int32) : mFr 0 C C1 = C1 := by funext j; simp [mFr]
theorem mFr_up (n : Nat) (C C1 : Nat → Nat → Int32) : va_up (mFr n C C1) n (C n) = mFr (n + 1) C C1 := by
  funext j
  by_cases h : j = n
  · subst h; simp [va_up, mFr]
  · by_cases h2 : j < n
    · simp [va_up, mFr, h, h2, Nat.lt_succ_of_lt h2]
    · simp [va_up, mFr, h, h2, show ¬ j < n + 1 by omega]
theorem mFr_lt {n j : Nat} (C C1 : Nat → Nat → Int32) (h : j < n) : mFr n C C1 j = C j := by simp [mFr, h]
theorem vp_cell_cg {cA : ClassId} {n : Nat} {f g : Nat → Int32} (h : ∀ j, j < n → f j = g j) : vp_cell cA (n, .inl f) = vp_cell cA (n, .inl g) := by
  show arrV cA n (fun j => .int (f j)) = arrV cA n (fun j => .int (g j))
  exact arrV_cg (fun j hj => by rw [h j hj])
theorem rws_cg {cI : ClassId} {w n : Nat} {r : Nat → Nat} {C C1 : Nat → Nat → Int32} (h : ∀ j, j < n → C j = C1 j) : rws cI w n r C = rws cI w n r C1 := by
  unfold rws
  apply List.map_congr_left
  intro j hj
  rw [h j (List.mem_range.mp hj)]
theorem wC_copied {D : va_G} {H : Heap} {cI cZ cO : ClassId} {x a t b : Nat → Nat} {ck : Nat} {Ho T E Dm F S : Nat → Int32} {C : Nat → Nat → Int32} {la : Nat} {T1 E1 D1 F2 F3 S1 : Nat → Int32} {C2 C3 : Nat → Nat → Int32} {la1 : Nat} {Lo Se : Nat → Int32} {Ef : Nat → Nat → Int32} {gp gi am li : Int32} {dl : Nat}
    (hP : va_P D vwCl (wC cI cZ cO x a t b ck Ho T E Dm F S C la T1 E1 D1 F2 S1 C2 la1 Lo Se Ef gp gi am li dl) H) (h1 : ∀ j, j < 8 → F2 j = F3 j) (h2 : ∀ j, j < 9 → C2 j = C3 j) : va_P D vwCl (wC cI cZ cO x a t b ck Ho T E Dm F S C la T1 E1 D1 F3 S1 C3 la1 Lo Se Ef gp gi am li dl) H := by
  have e : rws cI 8 9 (fun k => t (7 + k)) C2 = rws cI 8 9 (fun k => t (7 + k)) C3 := rws_cg h2
  have h3 : va_P D vwCl ((wC cI cZ cO x a t b ck Ho T E Dm F S C la T1 E1 D1 F3 S1 C3 la1 Lo Se Ef gp gi am li dl).set 13 (t 4, .inl (cZ, 8, .inl F2))) H := by
    unfold wC at hP ⊢
    rw [e] at hP
    exact hP
  exact va_P_cg h3 h1
end
section
abbrev rmX0_copyFrom : Room := { frames := 1, cells := 0, slots := 0, locals := 60 }
set_option maxHeartbeats 4000000 in
set_option maxRecDepth 100000 in
/-- copyFrom -/
theorem c_X0_copyFrom (l : Launch) (D : va_G) (cI cZ cO cJ : ClassId) (x a t b : Nat → Nat) (ck : Nat) (Ho T E Dm F S : Nat → Int32) (C : Nat → Nat → Int32) (la : Nat) (T1 E1 D1 F1 S1 : Nat → Int32) (C1 : Nat → Nat → Int32) (la1 : Nat) (Lo Se : Nat → Int32) (Ef : Nat → Nat → Int32) (gp gi am li : Int32) (dl : Nat) (sz : Nat) (hFb : ∀ f : Nat, f < 8 → F f = nI 0 ∨ F f = nI 1) : kMv l yX0_copyFrom wsX0_copyFrom rmX0_copyFrom D (kT cI cZ cO cJ) [.ref (t 0), .ref (a 0)] (wC cI cZ cO x a t b ck Ho T E Dm F S C la T1 E1 D1 F1 S1 C1 la1 Lo Se Ef gp gi am li dl) (wC cI cZ cO x a t b ck Ho T E Dm F S C la T E Dm F S C la Lo Se Ef gp gi am li dl) sz := by
  refine kEnter (cc := cX0_copyFrom) (maxL := 3) (ret := none) (by decide +kernel) rfl (Nat.le_of_ble_eq_true rfl) ?_
  intro p e s m below meth c args hx hb hr hml hts hown hlocks hin hK hN A hA9 Q hQ9 hP hD hsz hS hA ls hl
  have hl : lv_has ls 3 [(0, .ref (t 0)), (1, .ref (a 0))] := hl
  have hi_X0 : ∀ w ∈ u_ws RX0 TX0 7, w ∈ wsX0_copyFrom := by decide +kernel
  obtain ⟨H, hH9⟩ : ∃ H, H = s.heap := ⟨_, rfl⟩
  rw [← hH9] at hP ⊢
  have hS : va_S A s.heap H [] := by rw [hH9]; exact va_S.rf
  refine lv_aload_n hx hb dX0_copyFrom_0 rfl (lv_at hl 1 rfl) ?_
  refine va_get (D := D) (ci := 0) (v := .ref (a 1)) (C := RX0) (T := TX0) (N := 7) hx hb hts hi_X0 hown hK hP 2 rfl rfl 0 (by decide) (hts (.fieldLink RX0 9 "Coldaisle$Hall" "temperature" "[I") (by decide +kernel)) (fun _ h9 => h9) rfl dX0_copyFrom_1 ?_
  refine lv_iconst (v := nI 0) hx hb dX0_copyFrom_4 (by decide +kernel) ?_
  refine lv_aload_n hx hb dX0_copyFrom_5 rfl (lv_at hl 0 rfl) ?_
  refine va_get (D := D) (ci := 0) (v := .ref (t 1)) (C := RX0) (T := TX0) (N := 7) hx hb hts hi_X0 hown hK hP 9 rfl rfl 0 (by decide) (hts (.fieldLink RX0 9 "Coldaisle$Hall" "temperature" "[I") (by decide +kernel)) (fun _ h9 => h9) rfl dX0_copyFrom_6 ?_
  refine lv_iconst (v := nI 0) hx hb dX0_copyFrom_9 (by decide +kernel) ?_
  refine lv_bipush (v := nI 6) hx hb dX0_copyFrom_10 (by decide +kernel) ?_
  refine k_cpy hx hb (by rw [hml]; exact hl.1.symm) hown (hts (.methodLink RX0 37 arraycopyName) (by decide +kernel)) (hts (.native arraycopyName) (by decide +kernel)) (hts (.static arraycopyName) (by decide +kernel)) (hts (.initialized "java/lang/System") (by decide +kernel)) hK hP hD hS 3 10 0 rfl rfl rfl rfl (N := 6) (by decide) (Nat.le_of_ble_eq_true rfl) (Nat.le_of_ble_eq_true rfl) dX0_copyFrom_12 (fun H locs hP hD hS => ?_)
  have hP : va_P D vwCl (wC cI cZ cO x a t b ck Ho T E Dm F S C la T E1 D1 F1 S1 C1 la1 Lo Se Ef gp gi am li dl) H := hP
  have hD : va_D A (wC cI cZ cO x a t b ck Ho T E Dm F S C la T E1 D1 F1 S1 C1 la1 Lo Se Ef gp gi am li dl) := hD
  refine lv_aload_n hx hb dX0_copyFrom_15 rfl (lv_at hl 1 rfl) ?_
  refine va_get (D := D) (ci := 0) (v := .ref (a 2)) (C := RX0) (T := TX0) (N := 7) hx hb hts hi_X0 hown hK hP 2 rfl rfl 1 (by decide) (hts (.fieldLink RX0 15 "Coldaisle$Hall" "errors" "[I") (by decide +kernel)) (fun _ h9 => h9) rfl dX0_copyFrom_16 ?_
  refine lv_iconst (v := nI 0) hx hb dX0_copyFrom_19 (by decide +kernel) ?_
  refine lv_aload_n hx hb dX0_copyFrom_20 rfl (lv_at hl 0 rfl) ?_
  refine va_get (D := D) (ci := 0) (v := .ref (t 2)) (C := RX0) (T := TX0) (N := 7) hx hb hts hi_X0 hown hK hP 9 rfl rfl 1 (by decide) (hts (.fieldLink RX0 15 "Coldaisle$Hall" "errors" "[I") (by decide +kernel)) (fun _ h9 => h9) rfl dX0_copyFrom_21 ?_
  refine lv_iconst (v := nI 0) hx hb dX0_copyFrom_24 (by decide +kernel) ?_
  refine lv_bipush (v := nI 6) hx hb dX0_copyFrom_25 (by decide +kernel) ?_
  refine k_cpy hx hb (by rw [hml]; exact hl.1.symm) hown (hts (.methodLink RX0 37 arraycopyName) (by decide +kernel)) (hts (.native arraycopyName) (by decide +kernel)) (hts (.static arraycopyName) (by decide +kernel)) (hts (.initialized "java/lang/System") (by decide +kernel)) hK hP hD hS 4 11 0 rfl rfl rfl rfl (N := 6) (by decide) (Nat.le_of_ble_eq_true rfl) (Nat.le_of_ble_eq_true rfl) dX0_copyFrom_27 (fun H locs hP hD hS => ?_)
  have hP : va_P D vwCl (wC cI cZ cO x a t b ck Ho T E Dm F S C la T E D1 F1 S1 C1 la1 Lo Se Ef gp gi am li dl) H := hP
  have hD : va_D A (wC cI cZ cO x a t b ck Ho T E Dm F S C la T E D1 F1 S1 C1 la1 Lo Se Ef gp gi am li dl) := hD
  refine lv_aload_n hx hb dX0_copyFrom_30 rfl (lv_at hl 1 rfl) ?_
  refine va_get (D := D) (ci := 0) (v := .ref (a 3)) (C := RX0) (T := TX0) (N := 7) hx hb hts hi_X0 hown hK hP 2 rfl rfl 2 (by decide) (hts (.fieldLink RX0 18 "Coldaisle$Hall" "demand" "[I") (by decide +kernel)) (fun _ h9 => h9) rfl dX0_copyFrom_31 ?_
  refine lv_iconst (v := nI 0) hx hb dX0_copyFrom_34 (by decide +kernel) ?_
  refine lv_aload_n hx hb dX0_copyFrom_35 rfl (lv_at hl 0 rfl) ?_
  refine va_get (D := D) (ci := 0) (v := .ref (t 3)) (C := RX0) (T := TX0) (N := 7) hx hb hts hi_X0 hown hK hP 9 rfl rfl 2 (by decide) (hts (.fieldLink RX0 18 "Coldaisle$Hall" "demand" "[I") (by decide +kernel)) (fun _ h9 => h9) rfl dX0_copyFrom_36 ?_
  refine lv_iconst (v := nI 0) hx hb dX0_copyFrom_39 (by decide +kernel) ?_
  refine lv_bipush (v := nI 6) hx hb dX0_copyFrom_40 (by decide +kernel) ?_
  refine k_cpy hx hb (by rw [hml]; exact hl.1.symm) hown (hts (.methodLink RX0 37 arraycopyName) (by decide +kernel)) (hts (.native arraycopyName) (by decide +kernel)) (hts (.static arraycopyName) (by decide +kernel)) (hts (.initialized "java/lang/System") (by decide +kernel)) hK hP hD hS 5 12 0 rfl rfl rfl rfl (N := 6) (by decide) (Nat.le_of_ble_eq_true rfl) (Nat.le_of_ble_eq_true rfl) dX0_copyFrom_42 (fun H locs hP hD hS => ?_)
  have hP : va_P D vwCl (wC cI cZ cO x a t b ck Ho T E Dm F S C la T E Dm F1 S1 C1 la1 Lo Se Ef gp gi am li dl) H := hP
  have hD : va_D A (wC cI cZ cO x a t b ck Ho T E Dm F S C la T E Dm F1 S1 C1 la1 Lo Se Ef gp gi am li dl) := hD
  refine lv_aload_n hx hb dX0_copyFrom_45 rfl (lv_at hl 1 rfl) ?_
  refine va_get (D := D) (ci := 0) (v := .ref (a 5)) (C := RX0) (T := TX0) (N := 7) hx hb hts hi_X0 hown hK hP 2 rfl rfl 4 (by decide) (hts (.fieldLink RX0 25 "Coldaisle$Hall" "speed" "[I") (by decide +kernel)) (fun _ h9 => h9) rfl dX0_copyFrom_46 ?_
  refine lv_iconst (v := nI 0) hx hb dX0_copyFrom_49 (by decide +kernel) ?_
  refine lv_aload_n hx hb dX0_copyFrom_50 rfl (lv_at hl 0 rfl) ?_
  refine va_get (D := D) (ci := 0) (v := .ref (t 5)) (C := RX0) (T := TX0) (N := 7) hx hb hts hi_X0 hown hK hP 9 rfl rfl 4 (by decide) (hts (.fieldLink RX0 25 "Coldaisle$Hall" "speed" "[I") (by decide +kernel)) (fun _ h9 => h9) rfl dX0_copyFrom_51 ?_
  refine lv_iconst (v := nI 0) hx hb dX0_copyFrom_54 (by decide +kernel) ?_
  refine lv_bipush (v := nI 8) hx hb dX0_copyFrom_55 (by decide +kernel) ?_
  refine k_cpy hx hb (by rw [hml]; exact hl.1.symm) hown (hts (.methodLink RX0 37 arraycopyName) (by decide +kernel)) (hts (.native arraycopyName) (by decide +kernel)) (hts (.static arraycopyName) (by decide +kernel)) (hts (.initialized "java/lang/System") (by decide +kernel)) hK hP hD hS 7 14 0 rfl rfl rfl rfl (N := 8) (by decide) (Nat.le_of_ble_eq_true rfl) (Nat.le_of_ble_eq_true rfl) dX0_copyFrom_57 (fun H locs hP hD hS => ?_)
  have hP : va_P D vwCl (wC cI cZ cO x a t b ck Ho T E Dm F S C la T E Dm F1 S C1 la1 Lo Se Ef gp gi am li dl) H := hP
  have hD : va_D A (wC cI cZ cO x a t b ck Ho T E Dm F S C la T E Dm F1 S C1 la1 Lo Se Ef gp gi am li dl) := hD
  refine lv_iconst (v := nI 0) hx hb dX0_copyFrom_60 (by decide +kernel) ?_
  refine lv_istore_n (lv' := [(2, .int (nI 0)), (0, .ref (t 0)), (1, .ref (a 0))]) hx hb dX0_copyFrom_61 rfl hl (by decide) rfl (fun ls hl => ?_)
  have lp : ∀ (n z : Nat), z + n = 8 → ∀ (H : Heap) (locs : List Loc), va_P D vwCl (wC cI cZ cO x a t b ck Ho T E Dm F S C la T E Dm (mFl z F F1) S C1 la1 Lo Se Ef gp gi am li dl) H → va_D A (wC cI cZ cO x a t b ck Ho T E Dm F S C la T E Dm (mFl z F F1) S C1 la1 Lo Se Ef gp gi am li dl) → va_S A s.heap H locs → ∀ ls : Array Slot, lv_has ls 3 [(0, .ref (t 0)), (1, .ref (a 0)), (2, .int (nI z))] → W p l e rmX0_copyFrom s m args below meth c H locs 0 0 Q (F0 m 62 ls []) := by
    intro n
    induction n with
    | zero =>
      intro z hz H locs hP hD hS ls hl
      have hz9 : z = 8 := by omega
      subst hz9
      refine lv_iload_n hx hb dX0_copyFrom_62 rfl (lv_at hl 2 rfl) ?_
      refine lv_bipush (v := nI 8) hx hb dX0_copyFrom_63 (by decide +kernel) ?_
      refine lv_icmp_ge (tgt := 86) hx hb dX0_copyFrom_65 (by decide) (fun _ => ?_) (fun c9 => absurd (nI_le (Nat.le_refl 8) (by decide)) c9)
      refine lv_iconst (v := nI 0) hx hb dX0_copyFrom_86 (by decide +kernel) ?_
      refine lv_istore_n (lv' := [(2, .int (nI 0)), (0, .ref (t 0)), (1, .ref (a 0))]) hx hb dX0_copyFrom_87 rfl hl (by decide) rfl (fun ls hl => ?_)
      have lq : ∀ (n z : Nat), z + n = 9 → ∀ (H : Heap) (locs : List Loc), va_P D vwCl (wC cI cZ cO x a t b ck Ho T E Dm F S C la T E Dm (mFl 8 F F1) S (mFr z C C1) la1 Lo Se Ef gp gi am li dl) H → va_D A (wC cI cZ cO x a t b ck Ho T E Dm F S C la T E Dm (mFl 8 F F1) S (mFr z C C1) la1 Lo Se Ef gp gi am li dl) → va_S A s.heap H locs → ∀ ls : Array Slot, lv_has ls 3 [(0, .ref (t 0)), (1, .ref (a 0)), (2, .int (nI z))] → W p l e rmX0_copyFrom s m args below meth c H locs 0 0 Q (F0 m 88 ls []) := by
        intro n
        induction n with
        | zero =>
          intro z hz H locs hP hD hS ls hl
          have hz9 : z = 9 := by omega
          subst hz9
          refine lv_iload_n hx hb dX0_copyFrom_88 rfl (lv_at hl 2 rfl) ?_
          refine lv_bipush (v := nI 9) hx hb dX0_copyFrom_89 (by decide +kernel) ?_
          refine lv_icmp_ge (tgt := 119) hx hb dX0_copyFrom_91 (by decide) (fun _ => ?_) (fun c9 => absurd (nI_le (Nat.le_refl 9) (by decide)) c9)
          refine lv_aload_n hx hb dX0_copyFrom_119 rfl (lv_at hl 0 rfl) ?_
          refine lv_aload_n hx hb dX0_copyFrom_120 rfl (lv_at hl 1 rfl) ?_
          refine va_get (D := D) (ci := 0) (v := .int (nI la)) (C := RX0) (T := TX0) (N := 7) hx hb hts hi_X0 hown hK hP 2 rfl rfl 6 (by decide) (hts (.fieldLink RX0 33 "Coldaisle$Hall" "lastMinute" "I") (by decide +kernel)) (fun _ h9 => h9) rfl dX0_copyFrom_121 ?_
          refine va_put (D := D) (ci := 0) (v := .int (nI la)) (ty := tyX0 6) (C := RX0) (T := TX0) (N := 7) hx hb hts hi_X0 tyX0 tyX0_ok nmX0 hown hK hP hD hS 9 rfl rfl 6 (by decide) (hts (.fieldLink RX0 33 "Coldaisle$Hall" "lastMinute" "I") (by decide +kernel)) (fun _ h9 => h9) rfl (by decide +kernel) rfl rfl (Nat.le_of_ble_eq_true rfl) dX0_copyFrom_124 (fun H locs hP hD hS => ?_)
          have hP : va_P D vwCl (wC cI cZ cO x a t b ck Ho T E Dm F S C la T E Dm (mFl 8 F F1) S (mFr 9 C C1) la Lo Se Ef gp gi am li dl) H := hP
          have hD : va_D A (wC cI cZ cO x a t b ck Ho T E Dm F S C la T E Dm (mFl 8 F F1) S (mFr 9 C C1) la Lo Se Ef gp gi am li dl) := hD
          have hP := wC_copied (F3 := F) (C3 := C) hP (fun j hj => mFl_lt F F1 hj) (fun j hj => mFr_lt C C1 hj)
          subst hQ9
          subst hA9
          exact kRet_v hx hb hr hlocks hP hS dX0_copyFrom_127
        | succ n ih =>
          intro z hz H locs hP hD hS ls hl
          have hzb : z < 9 := by omega
          refine lv_iload_n hx hb dX0_copyFrom_88 rfl (lv_at hl 2 rfl) ?_
          refine lv_bipush (v := nI 9) hx hb dX0_copyFrom_89 (by decide +kernel) ?_
          refine lv_icmp_ge (tgt := 119) hx hb dX0_copyFrom_91 (by decide) (fun c9 => absurd c9 (nI_ge hzb (by decide))) (fun _ => ?_)
          refine lv_aload_n hx hb dX0_copyFrom_94 rfl (lv_at hl 1 rfl) ?_
          refine va_get (D := D) (ci := 0) (v := .ref (a 6)) (C := RX0) (T := TX0) (N := 7) hx hb hts hi_X0 hown hK hP 2 rfl rfl 5 (by decide) (hts (.fieldLink RX0 30 "Coldaisle$Hall" "commands" "[[I") (by decide +kernel)) (fun _ h9 => h9) rfl dX0_copyFrom_95 ?_
          refine lv_iload_n hx hb dX0_copyFrom_98 rfl (lv_at hl 2 rfl) ?_
          refine k_aald hx hb hK hP 8 2 rfl rfl (i := z) (by omega) (by decide) dX0_copyFrom_99 ?_
          refine lv_iconst (v := nI 0) hx hb dX0_copyFrom_100 (by decide +kernel) ?_
          refine lv_aload_n hx hb dX0_copyFrom_101 rfl (lv_at hl 0 rfl) ?_
          refine va_get (D := D) (ci := 0) (v := .ref (t 6)) (C := RX0) (T := TX0) (N := 7) hx hb hts hi_X0 hown hK hP 9 rfl rfl 5 (by decide) (hts (.fieldLink RX0 30 "Coldaisle$Hall" "commands" "[[I") (by decide +kernel)) (fun _ h9 => h9) rfl dX0_copyFrom_102 ?_
          refine lv_iload_n hx hb dX0_copyFrom_105 rfl (lv_at hl 2 rfl) ?_
          refine k_aald hx hb hK hP 15 2 rfl rfl (i := z) (by omega) (by decide) dX0_copyFrom_106 ?_
          refine lv_iconst (v := nI 0) hx hb dX0_copyFrom_107 (by decide +kernel) ?_
          refine lv_bipush (v := nI 8) hx hb dX0_copyFrom_108 (by decide +kernel) ?_
          refine k_cpy hx hb (by rw [hml]; exact hl.1.symm) hown (hts (.methodLink RX0 37 arraycopyName) (by decide +kernel)) (hts (.native arraycopyName) (by decide +kernel)) (hts (.static arraycopyName) (by decide +kernel)) (hts (.initialized "java/lang/System") (by decide +kernel)) hK hP hD hS _ _ 0 (wC_ring (j := z) (by omega)) (wC_tring (j := z) (by omega)) rfl rfl (N := 8) (by decide) (Nat.le_of_ble_eq_true rfl) (Nat.le_of_ble_eq_true rfl) dX0_copyFrom_110 (fun H locs hP hD hS => ?_)
          rw [wC_tring_set (j := z) (by omega)] at hP hD
          have hP : va_P D vwCl (wC cI cZ cO x a t b ck Ho T E Dm F S C la T E Dm (mFl 8 F F1) S (mFr (z + 1) C C1) la1 Lo Se Ef gp gi am li dl) H := by rw [← mFr_up z C C1]; exact hP
          have hD : va_D A (wC cI cZ cO x a t b ck Ho T E Dm F S C la T E Dm (mFl 8 F F1) S (mFr (z + 1) C C1) la1 Lo Se Ef gp gi am li dl) := by rw [← mFr_up z C C1]; exact hD
          refine lv_iinc (v := nI (z + 1)) (lv' := [(2, .int (nI (z + 1))), (0, .ref (t 0)), (1, .ref (a 0))]) hx hb dX0_copyFrom_113 hl (k := 2) rfl (k_inc _) (by decide) rfl (fun ls hl => ?_)
          refine lv_goto (tgt := 88) hx hb dX0_copyFrom_116 (by decide) ?_
          exact ih (z + 1) (by omega) H locs hP hD hS ls (lv_sub hl [1, 2, 0] rfl)
      exact lq 9 0 rfl H locs (by rw [mFr_0]; exact hP) (by rw [mFr_0]; exact hD) hS ls (lv_sub hl [1, 2, 0] rfl)
    | succ n ih =>
      intro z hz H locs hP hD hS ls hl
      have hzb : z < 8 := by omega
      refine lv_iload_n hx hb dX0_copyFrom_62 rfl (lv_at hl 2 rfl) ?_
      refine lv_bipush (v := nI 8) hx hb dX0_copyFrom_63 (by decide +kernel) ?_
      refine lv_icmp_ge (tgt := 86) hx hb dX0_copyFrom_65 (by decide) (fun c9 => absurd c9 (nI_ge hzb (by decide))) (fun _ => ?_)
      refine lv_aload_n hx hb dX0_copyFrom_68 rfl (lv_at hl 0 rfl) ?_
      refine va_get (D := D) (ci := 0) (v := .ref (t 4)) (C := RX0) (T := TX0) (N := 7) hx hb hts hi_X0 hown hK hP 9 rfl rfl 3 (by decide) (hts (.fieldLink RX0 21 "Coldaisle$Hall" "failed" "[Z") (by decide +kernel)) (fun _ h9 => h9) rfl dX0_copyFrom_69 ?_
      refine lv_iload_n hx hb dX0_copyFrom_72 rfl (lv_at hl 2 rfl) ?_
      refine lv_aload_n hx hb dX0_copyFrom_73 rfl (lv_at hl 1 rfl) ?_
      refine va_get (D := D) (ci := 0) (v := .ref (a 4)) (C := RX0) (T := TX0) (N := 7) hx hb hts hi_X0 hown hK hP 2 rfl rfl 3 (by decide) (hts (.fieldLink RX0 21 "Coldaisle$Hall" "failed" "[Z") (by decide +kernel)) (fun _ h9 => h9) rfl dX0_copyFrom_74 ?_
      refine lv_iload_n hx hb dX0_copyFrom_77 rfl (lv_at hl 2 rfl) ?_
      refine k_zald hx hb hK hP 6 1 rfl rfl (i := z) (by omega) (by decide) dX0_copyFrom_78 ?_
      refine k_zast hx hb hK hP hD hS 13 1 rfl rfl (i := z) (x := F z) (x' := F z) (by omega) (by decide) (by rcases hFb z (by omega) with h9 | h9 <;> rw [h9] <;> decide +kernel) dX0_copyFrom_79 (fun H locs hP hD hS => ?_)
      have hP : va_P D vwCl (wC cI cZ cO x a t b ck Ho T E Dm F S C la T E Dm (upd (mFl z F F1) z (F z)) S C1 la1 Lo Se Ef gp gi am li dl) H := hP
      have hD : va_D A (wC cI cZ cO x a t b ck Ho T E Dm F S C la T E Dm (upd (mFl z F F1) z (F z)) S C1 la1 Lo Se Ef gp gi am li dl) := hD
      have hP : va_P D vwCl (wC cI cZ cO x a t b ck Ho T E Dm F S C la T E Dm (mFl (z + 1) F F1) S C1 la1 Lo Se Ef gp gi am li dl) H := by rw [← mFl_up z F F1]; exact hP
      have hD : va_D A (wC cI cZ cO x a t b ck Ho T E Dm F S C la T E Dm (mFl (z + 1) F F1) S C1 la1 Lo Se Ef gp gi am li dl) := by rw [← mFl_up z F F1]; exact hD
      refine lv_iinc (v := nI (z + 1)) (lv' := [(2, .int (nI (z + 1))), (0, .ref (t 0)), (1, .ref (a 0))]) hx hb dX0_copyFrom_80 hl (k := 2) rfl (k_inc _) (by decide) rfl (fun ls hl => ?_)
      refine lv_goto (tgt := 62) hx hb dX0_copyFrom_83 (by decide) ?_
      exact ih (z + 1) (by omega) H locs hP hD hS ls (lv_sub hl [1, 2, 0] rfl)
  exact lp 8 0 rfl H locs (by simp only [mFl_0]; exact hP) (by simp only [mFl_0]; exact hD) hS ls (lv_sub hl [1, 2, 0] rfl)

abbrev rmX2_pass : Room := { frames := 4, cells := 0, slots := 0, locals := 92 }
set_option maxHeartbeats 4000000 in
set_option maxRecDepth 100000 in
/-- pass -/
theorem c_X2_pass (l : Launch) (D : va_G) (cI cZ cO cJ : ClassId) (x a t b : Nat → Nat) (ck : Nat) (Ho : Nat → Int32) (σ : HS) (T1 E1 D1 F1 S1 : Nat → Int32) (C1 : Nat → Nat → Int32) (la1 : Nat) (Lo Se : Nat → Int32) (Ef : Nat → Nat → Int32) (gp gi am li : Int32) (dl : Nat) (nm : Nat) (sz : Nat) (h1 : 0 < nm) (h2 : nm ≤ 300) (h8 : sL σ < 9) (h9 : dl < 9) (h10 : ck + nm ≤ 100000) : kMi l yX2_pass wsX2_pass rmX2_pass D (kT cI cZ cO cJ) [.ref (x 0), .int (nI nm)] (wC cI cZ cO x a t b ck Ho (sT σ) (sE σ) (sD σ) (sF σ) (sS σ) (sC σ) (sL σ) T1 E1 D1 F1 S1 C1 la1 Lo Se Ef gp gi am li dl) (wC cI cZ cO x a t b (ck + nm) (pHo li (fun k => sT (hRun gp gi am Lo Se Ef dl k σ)) Ho nm) (sT (hRun gp gi am Lo Se Ef dl nm σ)) (sE (hRun gp gi am Lo Se Ef dl nm σ)) (sD (hRun gp gi am Lo Se Ef dl nm σ)) (sF (hRun gp gi am Lo Se Ef dl nm σ)) (sS (hRun gp gi am Lo Se Ef dl nm σ)) (sC (hRun gp gi am Lo Se Ef dl nm σ)) (sL (hRun gp gi am Lo Se Ef dl nm σ)) T1 E1 D1 F1 S1 C1 la1 Lo Se Ef gp gi am li dl) sz (pSum li (fun k => sT (hRun gp gi am Lo Se Ef dl k σ)) nm) := by
  refine kEnter (cc := cX2_pass) (maxL := 4) (ret := some .int) (by decide +kernel) rfl (Nat.le_of_ble_eq_true rfl) ?_
  intro p e s m below meth c args hx hb hr hml hts hown hlocks hin hK hN A hA9 Q hQ9 hP hD hsz hS hA ls hl
  have hl : lv_has ls 4 [(0, .ref (x 0)), (1, .int (nI nm))] := hl
  have hi_X2 : ∀ w ∈ u_ws RX2 TX2 5, w ∈ wsX2_pass := by decide +kernel
  obtain ⟨H, hH9⟩ : ∃ H, H = s.heap := ⟨_, rfl⟩
  rw [← hH9] at hP ⊢
  have hS : va_S A s.heap H [] := by rw [hH9]; exact va_S.rf
  refine lv_iload_n hx hb dX2_pass_0 rfl (lv_at hl 1 rfl) ?_
  refine lv_iconst (v := nI 1) hx hb dX2_pass_1 (by decide +kernel) ?_
  refine lv_sipush (v := nI 300) hx hb dX2_pass_2 (by decide +kernel) ?_
  refine kCall_v (W0 := []) (W1 := []) hP hD hS hA [] rfl rfl (va_runS (As := [.int (nI nm), .int (nI 1), .int (nI 300)]) (rest := []) ⟨hx, hb, hml, hown, hts⟩ (c_X2_requireWithin l D cI cZ cO cJ (nI nm) (nI 1) (nI 300) H.size (nI_nlt (by omega) (by omega)) (nI_le (by omega) (by decide))) (va_cwS (rm := rmX2_requireWithin) 3 hts gX2_pass_X2_requireWithin rfl rfl rfl (by decide +kernel) ⟨Nat.le_of_ble_eq_true rfl, Nat.le_of_ble_eq_true rfl⟩) (kPreS hK hN hP hD [] rfl rfl) rfl rfl hl.1 rfl (lv_room (Nat.le_of_ble_eq_true rfl)) dX2_pass_5 ⟨Nat.zero_le _, Nat.zero_le _⟩) (fun H locs hP hD hS => ?_)
  have hP : va_P D vwCl (wC cI cZ cO x a t b ck Ho (sT σ) (sE σ) (sD σ) (sF σ) (sS σ) (sC σ) (sL σ) T1 E1 D1 F1 S1 C1 la1 Lo Se Ef gp gi am li dl) H := hP
  have hD : va_D A (wC cI cZ cO x a t b ck Ho (sT σ) (sE σ) (sD σ) (sF σ) (sS σ) (sC σ) (sL σ) T1 E1 D1 F1 S1 C1 la1 Lo Se Ef gp gi am li dl) := hD
  refine lv_aload_n hx hb dX2_pass_8 rfl (lv_at hl 0 rfl) ?_
  refine va_get (D := D) (ci := 2) (v := .int (nI ck)) (C := RX2) (T := TX2) (N := 5) hx hb hts hi_X2 hown hK hP 0 rfl rfl 4 (by decide) (hts (.fieldLink RX2 30 "Coldaisle" "clock" "I") (by decide +kernel)) (fun _ h9 => h9) rfl dX2_pass_9 ?_
  refine lv_iload_n hx hb dX2_pass_12 rfl (lv_at hl 1 rfl) ?_
  refine lv_iadd hx hb dX2_pass_13 ?_
  refine k_as (nI_add _ _) ?_
  refine lv_ldc hx hb hown (hts (.constant RX2 100 (100000)) (by decide +kernel)) dX2_pass_14 ?_
  refine k_as (y := nI 100000) (by decide +kernel) ?_
  refine lv_icmp_le (tgt := 29) hx hb dX2_pass_16 (by decide) (fun _ => ?_) (fun c9 => absurd (nI_le h10 (by decide)) c9)
  refine lv_iconst (v := nI 0) hx hb dX2_pass_29 (by decide +kernel) ?_
  refine lv_istore_n (lv' := [(2, .int (nI 0)), (0, .ref (x 0)), (1, .int (nI nm))]) hx hb dX2_pass_30 rfl hl (by decide) rfl (fun ls hl => ?_)
  refine lv_iconst (v := nI 0) hx hb dX2_pass_31 (by decide +kernel) ?_
  refine lv_istore_n (lv' := [(3, .int (nI 0)), (2, .int (nI 0)), (0, .ref (x 0)), (1, .int (nI nm))]) hx hb dX2_pass_32 rfl hl (by decide) rfl (fun ls hl => ?_)
  have lp : ∀ (n z : Nat), z + n = nm → ∀ (H : Heap) (locs : List Loc), va_P D vwCl (wC cI cZ cO x a t b (ck + z) (pHo li (fun k => sT (hRun gp gi am Lo Se Ef dl k σ)) Ho z) (sT (hRun gp gi am Lo Se Ef dl z σ)) (sE (hRun gp gi am Lo Se Ef dl z σ)) (sD (hRun gp gi am Lo Se Ef dl z σ)) (sF (hRun gp gi am Lo Se Ef dl z σ)) (sS (hRun gp gi am Lo Se Ef dl z σ)) (sC (hRun gp gi am Lo Se Ef dl z σ)) (sL (hRun gp gi am Lo Se Ef dl z σ)) T1 E1 D1 F1 S1 C1 la1 Lo Se Ef gp gi am li dl) H → va_D A (wC cI cZ cO x a t b (ck + z) (pHo li (fun k => sT (hRun gp gi am Lo Se Ef dl k σ)) Ho z) (sT (hRun gp gi am Lo Se Ef dl z σ)) (sE (hRun gp gi am Lo Se Ef dl z σ)) (sD (hRun gp gi am Lo Se Ef dl z σ)) (sF (hRun gp gi am Lo Se Ef dl z σ)) (sS (hRun gp gi am Lo Se Ef dl z σ)) (sC (hRun gp gi am Lo Se Ef dl z σ)) (sL (hRun gp gi am Lo Se Ef dl z σ)) T1 E1 D1 F1 S1 C1 la1 Lo Se Ef gp gi am li dl) → va_S A s.heap H locs → ∀ ls : Array Slot, lv_has ls 4 [(0, .ref (x 0)), (1, .int (nI nm)), (2, .int (pSum li (fun k => sT (hRun gp gi am Lo Se Ef dl k σ)) z)), (3, .int (nI z))] → W p l e rmX2_pass s m args below meth c H locs 0 0 Q (F0 m 33 ls []) := by
    intro n
    induction n with
    | zero =>
      intro z hz H locs hP hD hS ls hl
      have hz9 : nm = z := by omega
      subst hz9
      refine lv_iload_n hx hb dX2_pass_33 rfl (lv_at hl 3 rfl) ?_
      refine lv_iload_n hx hb dX2_pass_34 rfl (lv_at hl 1 rfl) ?_
      refine lv_icmp_ge (tgt := 72) hx hb dX2_pass_35 (by decide) (fun _ => ?_) (fun c9 => absurd (nI_le (Nat.le_refl _) (by omega)) c9)
      refine lv_iload_n hx hb dX2_pass_72 rfl (lv_at hl 2 rfl) ?_
      subst hQ9
      subst hA9
      exact kRet_i hx hb hr hlocks hP hS dX2_pass_73 rfl
    | succ n ih =>
      intro z hz H locs hP hD hS ls hl
      have hzb : z < nm := by omega
      refine lv_iload_n hx hb dX2_pass_33 rfl (lv_at hl 3 rfl) ?_
      refine lv_iload_n hx hb dX2_pass_34 rfl (lv_at hl 1 rfl) ?_
      refine lv_icmp_ge (tgt := 72) hx hb dX2_pass_35 (by decide) (fun c9 => absurd c9 (nI_ge hzb (by omega))) (fun _ => ?_)
      refine lv_aload_n hx hb dX2_pass_38 rfl (lv_at hl 0 rfl) ?_
      refine va_get (D := D) (ci := 2) (v := .ref (a 0)) (C := RX2) (T := TX2) (N := 5) hx hb hts hi_X2 hown hK hP 0 rfl rfl 1 (by decide) (hts (.fieldLink RX2 19 "Coldaisle" "hall" "LColdaisle$Hall;") (by decide +kernel)) (fun _ h9 => h9) rfl dX2_pass_39 ?_
      refine lv_aload_n hx hb dX2_pass_42 rfl (lv_at hl 0 rfl) ?_
      refine va_get (D := D) (ci := 2) (v := .ref (b 0)) (C := RX2) (T := TX2) (N := 5) hx hb hts hi_X2 hown hK hP 0 rfl rfl 0 (by decide) (hts (.fieldLink RX2 10 "Coldaisle" "settings" "LColdaisle$Settings;") (by decide +kernel)) (fun _ h9 => h9) rfl dX2_pass_43 ?_
      refine kCall2_v (ws' := wC cI cZ cO x a t b (ck + z) (pHo li (fun k => sT (hRun gp gi am Lo Se Ef dl k σ)) Ho z) (nT gp gi am (sT (hRun gp gi am Lo Se Ef dl z σ)) (sE (hRun gp gi am Lo Se Ef dl z σ)) (sD (hRun gp gi am Lo Se Ef dl z σ)) (sF (hRun gp gi am Lo Se Ef dl z σ)) (sS (hRun gp gi am Lo Se Ef dl z σ)) (sC (hRun gp gi am Lo Se Ef dl z σ)) (sL (hRun gp gi am Lo Se Ef dl z σ)) Lo Se Ef dl) (nE (sT (hRun gp gi am Lo Se Ef dl z σ)) (sE (hRun gp gi am Lo Se Ef dl z σ)) Se) (nD gp gi (sT (hRun gp gi am Lo Se Ef dl z σ)) (sE (hRun gp gi am Lo Se Ef dl z σ)) (sD (hRun gp gi am Lo Se Ef dl z σ)) (sF (hRun gp gi am Lo Se Ef dl z σ)) Se Ef) (sF (hRun gp gi am Lo Se Ef dl z σ)) (nS gp gi (sT (hRun gp gi am Lo Se Ef dl z σ)) (sE (hRun gp gi am Lo Se Ef dl z σ)) (sD (hRun gp gi am Lo Se Ef dl z σ)) (sF (hRun gp gi am Lo Se Ef dl z σ)) (sS (hRun gp gi am Lo Se Ef dl z σ)) (sC (hRun gp gi am Lo Se Ef dl z σ)) (sL (hRun gp gi am Lo Se Ef dl z σ)) Se Ef dl) (nC gp gi (sT (hRun gp gi am Lo Se Ef dl z σ)) (sE (hRun gp gi am Lo Se Ef dl z σ)) (sD (hRun gp gi am Lo Se Ef dl z σ)) (sF (hRun gp gi am Lo Se Ef dl z σ)) (sC (hRun gp gi am Lo Se Ef dl z σ)) (sL (hRun gp gi am Lo Se Ef dl z σ)) Se Ef) (((sL (hRun gp gi am Lo Se Ef dl z σ)) + 1) % 9) T1 E1 D1 F1 S1 C1 la1 Lo Se Ef gp gi am li dl) (W0 := wH cI cZ cO a b (sT (hRun gp gi am Lo Se Ef dl z σ)) (sE (hRun gp gi am Lo Se Ef dl z σ)) (sD (hRun gp gi am Lo Se Ef dl z σ)) (sF (hRun gp gi am Lo Se Ef dl z σ)) (sS (hRun gp gi am Lo Se Ef dl z σ)) (sC (hRun gp gi am Lo Se Ef dl z σ)) (sL (hRun gp gi am Lo Se Ef dl z σ)) Lo Se Ef gp gi am li dl) (W1 := wH cI cZ cO a b (nT gp gi am (sT (hRun gp gi am Lo Se Ef dl z σ)) (sE (hRun gp gi am Lo Se Ef dl z σ)) (sD (hRun gp gi am Lo Se Ef dl z σ)) (sF (hRun gp gi am Lo Se Ef dl z σ)) (sS (hRun gp gi am Lo Se Ef dl z σ)) (sC (hRun gp gi am Lo Se Ef dl z σ)) (sL (hRun gp gi am Lo Se Ef dl z σ)) Lo Se Ef dl) (nE (sT (hRun gp gi am Lo Se Ef dl z σ)) (sE (hRun gp gi am Lo Se Ef dl z σ)) Se) (nD gp gi (sT (hRun gp gi am Lo Se Ef dl z σ)) (sE (hRun gp gi am Lo Se Ef dl z σ)) (sD (hRun gp gi am Lo Se Ef dl z σ)) (sF (hRun gp gi am Lo Se Ef dl z σ)) Se Ef) (sF (hRun gp gi am Lo Se Ef dl z σ)) (nS gp gi (sT (hRun gp gi am Lo Se Ef dl z σ)) (sE (hRun gp gi am Lo Se Ef dl z σ)) (sD (hRun gp gi am Lo Se Ef dl z σ)) (sF (hRun gp gi am Lo Se Ef dl z σ)) (sS (hRun gp gi am Lo Se Ef dl z σ)) (sC (hRun gp gi am Lo Se Ef dl z σ)) (sL (hRun gp gi am Lo Se Ef dl z σ)) Se Ef dl) (nC gp gi (sT (hRun gp gi am Lo Se Ef dl z σ)) (sE (hRun gp gi am Lo Se Ef dl z σ)) (sD (hRun gp gi am Lo Se Ef dl z σ)) (sF (hRun gp gi am Lo Se Ef dl z σ)) (sC (hRun gp gi am Lo Se Ef dl z σ)) (sL (hRun gp gi am Lo Se Ef dl z σ)) Se Ef) (((sL (hRun gp gi am Lo Se Ef dl z σ)) + 1) % 9) Lo Se Ef gp gi am li dl) hP hD hS hA pA pAR wC_hallC wC_hallC wC_hallR wC_len (by decide) (by decide) wC_hallF (va_runV (As := [.ref (b 0)]) (rest := []) ⟨hx, hb, hml, hown, hts⟩ (c_X0_runMinute l D cI cZ cO cJ a b (sT (hRun gp gi am Lo Se Ef dl z σ)) (sE (hRun gp gi am Lo Se Ef dl z σ)) (sD (hRun gp gi am Lo Se Ef dl z σ)) (sF (hRun gp gi am Lo Se Ef dl z σ)) (sS (hRun gp gi am Lo Se Ef dl z σ)) (sC (hRun gp gi am Lo Se Ef dl z σ)) (sL (hRun gp gi am Lo Se Ef dl z σ)) Lo Se Ef gp gi am li dl H.size (hRun_la h8 z) (h9)) (cwV (rm := rmX0_runMinute) 1 hts gX2_pass_X0_runMinute rfl rfl rfl (by decide +kernel) ⟨Nat.le_of_ble_eq_true rfl, Nat.le_of_ble_eq_true rfl⟩) (kPreV hK hN hP hD pA rfl wC_hallC (va_recv hK hP (ci := 0) (q0 := 2) rfl rfl)) rfl rfl hl.1 rfl (lv_room (Nat.le_of_ble_eq_true rfl)) dX2_pass_46 ⟨Nat.zero_le _, Nat.zero_le _⟩) (fun H locs hP hD hS => ?_)
      have hP : va_P D vwCl (wC cI cZ cO x a t b (ck + z) (pHo li (fun k => sT (hRun gp gi am Lo Se Ef dl k σ)) Ho z) (sT (hRun gp gi am Lo Se Ef dl (z + 1) σ)) (sE (hRun gp gi am Lo Se Ef dl (z + 1) σ)) (sD (hRun gp gi am Lo Se Ef dl (z + 1) σ)) (sF (hRun gp gi am Lo Se Ef dl (z + 1) σ)) (sS (hRun gp gi am Lo Se Ef dl (z + 1) σ)) (sC (hRun gp gi am Lo Se Ef dl (z + 1) σ)) (sL (hRun gp gi am Lo Se Ef dl (z + 1) σ)) T1 E1 D1 F1 S1 C1 la1 Lo Se Ef gp gi am li dl) H := hP
      have hD : va_D A (wC cI cZ cO x a t b (ck + z) (pHo li (fun k => sT (hRun gp gi am Lo Se Ef dl k σ)) Ho z) (sT (hRun gp gi am Lo Se Ef dl (z + 1) σ)) (sE (hRun gp gi am Lo Se Ef dl (z + 1) σ)) (sD (hRun gp gi am Lo Se Ef dl (z + 1) σ)) (sF (hRun gp gi am Lo Se Ef dl (z + 1) σ)) (sS (hRun gp gi am Lo Se Ef dl (z + 1) σ)) (sC (hRun gp gi am Lo Se Ef dl (z + 1) σ)) (sL (hRun gp gi am Lo Se Ef dl (z + 1) σ)) T1 E1 D1 F1 S1 C1 la1 Lo Se Ef gp gi am li dl) := hD
      refine lv_aload_n hx hb dX2_pass_49 rfl (lv_at hl 0 rfl) ?_
      refine lv_dup hx hb dX2_pass_50 rfl ?_
      refine va_get (D := D) (ci := 2) (v := .int (nI (ck + z))) (C := RX2) (T := TX2) (N := 5) hx hb hts hi_X2 hown hK hP 0 rfl rfl 4 (by decide) (hts (.fieldLink RX2 30 "Coldaisle" "clock" "I") (by decide +kernel)) (fun _ h9 => h9) rfl dX2_pass_51 ?_
      refine lv_iconst (v := nI 1) hx hb dX2_pass_54 (by decide +kernel) ?_
      refine lv_iadd hx hb dX2_pass_55 ?_
      refine k_as (nI_add _ _) ?_
      refine va_put (D := D) (ci := 2) (v := .int (nI (ck + z + 1))) (ty := tyX2 4) (C := RX2) (T := TX2) (N := 5) hx hb hts hi_X2 tyX2 tyX2_ok nmX2 hown hK hP hD hS 0 rfl rfl 4 (by decide) (hts (.fieldLink RX2 30 "Coldaisle" "clock" "I") (by decide +kernel)) (fun _ h9 => h9) rfl (by decide +kernel) rfl rfl (Nat.le_of_ble_eq_true rfl) dX2_pass_56 (fun H locs hP hD hS => ?_)
      have hP : va_P D vwCl (wC cI cZ cO x a t b (ck + z + 1) (pHo li (fun k => sT (hRun gp gi am Lo Se Ef dl k σ)) Ho z) (sT (hRun gp gi am Lo Se Ef dl (z + 1) σ)) (sE (hRun gp gi am Lo Se Ef dl (z + 1) σ)) (sD (hRun gp gi am Lo Se Ef dl (z + 1) σ)) (sF (hRun gp gi am Lo Se Ef dl (z + 1) σ)) (sS (hRun gp gi am Lo Se Ef dl (z + 1) σ)) (sC (hRun gp gi am Lo Se Ef dl (z + 1) σ)) (sL (hRun gp gi am Lo Se Ef dl (z + 1) σ)) T1 E1 D1 F1 S1 C1 la1 Lo Se Ef gp gi am li dl) H := hP
      have hD : va_D A (wC cI cZ cO x a t b (ck + z + 1) (pHo li (fun k => sT (hRun gp gi am Lo Se Ef dl k σ)) Ho z) (sT (hRun gp gi am Lo Se Ef dl (z + 1) σ)) (sE (hRun gp gi am Lo Se Ef dl (z + 1) σ)) (sD (hRun gp gi am Lo Se Ef dl (z + 1) σ)) (sF (hRun gp gi am Lo Se Ef dl (z + 1) σ)) (sS (hRun gp gi am Lo Se Ef dl (z + 1) σ)) (sC (hRun gp gi am Lo Se Ef dl (z + 1) σ)) (sL (hRun gp gi am Lo Se Ef dl (z + 1) σ)) T1 E1 D1 F1 S1 C1 la1 Lo Se Ef gp gi am li dl) := hD
      refine lv_iload_n hx hb dX2_pass_59 rfl (lv_at hl 2 rfl) ?_
      refine lv_aload_n hx hb dX2_pass_60 rfl (lv_at hl 0 rfl) ?_
      refine kCallW_i (W1 := wC cI cZ cO x a t b (ck + z + 1) (mFl 6 (mHo li (sT (hRun gp gi am Lo Se Ef dl (z + 1) σ)) (pHo li (fun k => sT (hRun gp gi am Lo Se Ef dl k σ)) Ho z)) (pHo li (fun k => sT (hRun gp gi am Lo Se Ef dl k σ)) Ho z)) (sT (hRun gp gi am Lo Se Ef dl (z + 1) σ)) (sE (hRun gp gi am Lo Se Ef dl (z + 1) σ)) (sD (hRun gp gi am Lo Se Ef dl (z + 1) σ)) (sF (hRun gp gi am Lo Se Ef dl (z + 1) σ)) (sS (hRun gp gi am Lo Se Ef dl (z + 1) σ)) (sC (hRun gp gi am Lo Se Ef dl (z + 1) σ)) (sL (hRun gp gi am Lo Se Ef dl (z + 1) σ)) T1 E1 D1 F1 S1 C1 la1 Lo Se Ef gp gi am li dl) hD hS hA rfl (va_runV (As := []) (rest := [.int (pSum li (fun k => sT (hRun gp gi am Lo Se Ef dl k σ)) z)]) ⟨hx, hb, hml, hown, hts⟩ (c_X2_noteHotZones l D cI cZ cO cJ x a t b (ck + z + 1) (pHo li (fun k => sT (hRun gp gi am Lo Se Ef dl k σ)) Ho z) (sT (hRun gp gi am Lo Se Ef dl (z + 1) σ)) (sE (hRun gp gi am Lo Se Ef dl (z + 1) σ)) (sD (hRun gp gi am Lo Se Ef dl (z + 1) σ)) (sF (hRun gp gi am Lo Se Ef dl (z + 1) σ)) (sS (hRun gp gi am Lo Se Ef dl (z + 1) σ)) (sC (hRun gp gi am Lo Se Ef dl (z + 1) σ)) (sL (hRun gp gi am Lo Se Ef dl (z + 1) σ)) T1 E1 D1 F1 S1 C1 la1 Lo Se Ef gp gi am li dl H.size) (cwV (rm := rmX2_noteHotZones) 0 hts gX2_pass_X2_noteHotZones rfl rfl rfl (by decide +kernel) ⟨Nat.le_of_ble_eq_true rfl, Nat.le_of_ble_eq_true rfl⟩) (kPreVW hK hN hP hD (va_recv hK hP (ci := 2) (q0 := 0) rfl rfl)) rfl rfl hl.1 rfl (lv_room (Nat.le_of_ble_eq_true rfl)) dX2_pass_61 ⟨Nat.zero_le _, Nat.zero_le _⟩) (fun H locs hP hD hS => ?_)
      refine lv_iadd hx hb dX2_pass_64 ?_
      refine lv_istore_n (lv' := [(2, .int ((pSum li (fun k => sT (hRun gp gi am Lo Se Ef dl k σ)) z) + (mNot li (sT (hRun gp gi am Lo Se Ef dl (z + 1) σ)) 6))), (0, .ref (x 0)), (1, .int (nI nm)), (3, .int (nI z))]) hx hb dX2_pass_65 rfl hl (by decide) rfl (fun ls hl => ?_)
      refine lv_iinc (v := nI (z + 1)) (lv' := [(3, .int (nI (z + 1))), (2, .int ((pSum li (fun k => sT (hRun gp gi am Lo Se Ef dl k σ)) z) + (mNot li (sT (hRun gp gi am Lo Se Ef dl (z + 1) σ)) 6))), (0, .ref (x 0)), (1, .int (nI nm))]) hx hb dX2_pass_66 hl (k := 3) rfl (k_inc _) (by decide) rfl (fun ls hl => ?_)
      refine lv_goto (tgt := 33) hx hb dX2_pass_69 (by decide) ?_
      have hP : va_P D vwCl (wC cI cZ cO x a t b (ck + (z + 1)) (pHo li (fun k => sT (hRun gp gi am Lo Se Ef dl k σ)) Ho (z + 1)) (sT (hRun gp gi am Lo Se Ef dl (z + 1) σ)) (sE (hRun gp gi am Lo Se Ef dl (z + 1) σ)) (sD (hRun gp gi am Lo Se Ef dl (z + 1) σ)) (sF (hRun gp gi am Lo Se Ef dl (z + 1) σ)) (sS (hRun gp gi am Lo Se Ef dl (z + 1) σ)) (sC (hRun gp gi am Lo Se Ef dl (z + 1) σ)) (sL (hRun gp gi am Lo Se Ef dl (z + 1) σ)) T1 E1 D1 F1 S1 C1 la1 Lo Se Ef gp gi am li dl) H := hP
      have hD : va_D A (wC cI cZ cO x a t b (ck + (z + 1)) (pHo li (fun k => sT (hRun gp gi am Lo Se Ef dl k σ)) Ho (z + 1)) (sT (hRun gp gi am Lo Se Ef dl (z + 1) σ)) (sE (hRun gp gi am Lo Se Ef dl (z + 1) σ)) (sD (hRun gp gi am Lo Se Ef dl (z + 1) σ)) (sF (hRun gp gi am Lo Se Ef dl (z + 1) σ)) (sS (hRun gp gi am Lo Se Ef dl (z + 1) σ)) (sC (hRun gp gi am Lo Se Ef dl (z + 1) σ)) (sL (hRun gp gi am Lo Se Ef dl (z + 1) σ)) T1 E1 D1 F1 S1 C1 la1 Lo Se Ef gp gi am li dl) := hD
      exact ih (z + 1) (by omega) H locs hP hD hS ls (lv_sub hl [2, 3, 1, 0] rfl)
  exact lp nm 0 (by omega) H locs hP hD hS ls (lv_sub hl [2, 3, 1, 0] rfl)

abbrev rmX2_greatestTemperature : Room := { frames := 4, cells := 0, slots := 0, locals := 92 }
set_option maxHeartbeats 4000000 in
set_option maxRecDepth 100000 in
/-- greatestTemperature -/
theorem c_X2_greatestTemperature_n (l : Launch) (D : va_G) (cI cZ cO cJ : ClassId) (x a t b : Nat → Nat) (ck : Nat) (Ho : Nat → Int32) (σ : HS) (T1 E1 D1 F1 S1 : Nat → Int32) (C1 : Nat → Nat → Int32) (la1 : Nat) (Lo Se : Nat → Int32) (Ef : Nat → Nat → Int32) (gp gi am li : Int32) (dl : Nat) (z0 m9 : Nat) (sz : Nat) (hz0 : z0 < 6) (hm : m9 < 60) (h8 : sL σ < 9) (h9 : dl < 9) (hFb : ∀ f : Nat, f < 8 → sF σ f = nI 0 ∨ sF σ f = nI 1) : kMi l yX2_greatestTemperature wsX2_greatestTemperature rmX2_greatestTemperature D (kT cI cZ cO cJ) [.ref (x 0), .int (nI z0), .int (nI (m9 + 1)), .int (-1)] (wC cI cZ cO x a t b ck Ho (sT σ) (sE σ) (sD σ) (sF σ) (sS σ) (sC σ) (sL σ) T1 E1 D1 F1 S1 C1 la1 Lo Se Ef gp gi am li dl) (wC cI cZ cO x a t b ck Ho (sT σ) (sE σ) (sD σ) (sF σ) (sS σ) (sC σ) (sL σ) (sT (hRun gp gi am Lo Se Ef dl (m9 + 1) σ)) (sE (hRun gp gi am Lo Se Ef dl (m9 + 1) σ)) (sD (hRun gp gi am Lo Se Ef dl (m9 + 1) σ)) (sF (hRun gp gi am Lo Se Ef dl (m9 + 1) σ)) (sS (hRun gp gi am Lo Se Ef dl (m9 + 1) σ)) (sC (hRun gp gi am Lo Se Ef dl (m9 + 1) σ)) (sL (hRun gp gi am Lo Se Ef dl (m9 + 1) σ)) Lo Se Ef gp gi am li dl) sz (gOf gp gi am Lo Se Ef dl σ z0 m9) := by
  refine kEnter (cc := cX2_greatestTemperature) (maxL := 6) (ret := some .int) (by decide +kernel) rfl (Nat.le_of_ble_eq_true rfl) ?_
  intro p e s m below meth c args hx hb hr hml hts hown hlocks hin hK hN A hA9 Q hQ9 hP hD hsz hS hA ls hl
  have hl : lv_has ls 6 [(0, .ref (x 0)), (1, .int (nI z0)), (2, .int (nI (m9 + 1))), (3, .int (-1))] := hl
  have hi_X2 : ∀ w ∈ u_ws RX2 TX2 5, w ∈ wsX2_greatestTemperature := by decide +kernel
  have hi_X0 : ∀ w ∈ u_ws RX0 TX0 7, w ∈ wsX2_greatestTemperature := by decide +kernel
  obtain ⟨H, hH9⟩ : ∃ H, H = s.heap := ⟨_, rfl⟩
  rw [← hH9] at hP ⊢
  have hS : va_S A s.heap H [] := by rw [hH9]; exact va_S.rf
  refine lv_aload_n hx hb dX2_greatestTemperature_0 rfl (lv_at hl 0 rfl) ?_
  refine va_get (D := D) (ci := 2) (v := .ref (t 0)) (C := RX2) (T := TX2) (N := 5) hx hb hts hi_X2 hown hK hP 0 rfl rfl 2 (by decide) (hts (.fieldLink RX2 23 "Coldaisle" "trial" "LColdaisle$Hall;") (by decide +kernel)) (fun _ h9 => h9) rfl dX2_greatestTemperature_1 ?_
  refine lv_aload_n hx hb dX2_greatestTemperature_4 rfl (lv_at hl 0 rfl) ?_
  refine va_get (D := D) (ci := 2) (v := .ref (a 0)) (C := RX2) (T := TX2) (N := 5) hx hb hts hi_X2 hown hK hP 0 rfl rfl 1 (by decide) (hts (.fieldLink RX2 19 "Coldaisle" "hall" "LColdaisle$Hall;") (by decide +kernel)) (fun _ h9 => h9) rfl dX2_greatestTemperature_5 ?_
  refine kCallW_v (W1 := wC cI cZ cO x a t b ck Ho (sT σ) (sE σ) (sD σ) (sF σ) (sS σ) (sC σ) (sL σ) (sT σ) (sE σ) (sD σ) (sF σ) (sS σ) (sC σ) (sL σ) Lo Se Ef gp gi am li dl) hD hS hA rfl (va_runV (As := [.ref (a 0)]) (rest := []) ⟨hx, hb, hml, hown, hts⟩ (c_X0_copyFrom l D cI cZ cO cJ x a t b ck Ho (sT σ) (sE σ) (sD σ) (sF σ) (sS σ) (sC σ) (sL σ) T1 E1 D1 F1 S1 C1 la1 Lo Se Ef gp gi am li dl H.size hFb) (cwV (rm := rmX0_copyFrom) 1 hts gX2_greatestTemperature_X0_copyFrom rfl rfl rfl (by decide +kernel) ⟨Nat.le_of_ble_eq_true rfl, Nat.le_of_ble_eq_true rfl⟩) (kPreVW hK hN hP hD (va_recv hK hP (ci := 0) (q0 := 9) rfl rfl)) rfl rfl hl.1 rfl (lv_room (Nat.le_of_ble_eq_true rfl)) dX2_greatestTemperature_8 ⟨Nat.zero_le _, Nat.zero_le _⟩) (fun H locs hP hD hS => ?_)
  refine lv_iload_n hx hb dX2_greatestTemperature_11 rfl (lv_at hl 3 rfl) ?_
  refine lv_iconst (v := (-1)) hx hb dX2_greatestTemperature_12 (by decide +kernel) ?_
  refine lv_icmp_eq (tgt := 24) hx hb dX2_greatestTemperature_13 (by decide) (fun _ => ?_) (fun c9 => absurd rfl c9)
  refine lv_aload_n hx hb dX2_greatestTemperature_24 rfl (lv_at hl 0 rfl) ?_
  refine va_get (D := D) (ci := 2) (v := .ref (t 0)) (C := RX2) (T := TX2) (N := 5) hx hb hts hi_X2 hown hK hP 0 rfl rfl 2 (by decide) (hts (.fieldLink RX2 23 "Coldaisle" "trial" "LColdaisle$Hall;") (by decide +kernel)) (fun _ h9 => h9) rfl dX2_greatestTemperature_25 ?_
  refine lv_aload_n hx hb dX2_greatestTemperature_28 rfl (lv_at hl 0 rfl) ?_
  refine va_get (D := D) (ci := 2) (v := .ref (b 0)) (C := RX2) (T := TX2) (N := 5) hx hb hts hi_X2 hown hK hP 0 rfl rfl 0 (by decide) (hts (.fieldLink RX2 10 "Coldaisle" "settings" "LColdaisle$Settings;") (by decide +kernel)) (fun _ h9 => h9) rfl dX2_greatestTemperature_29 ?_
  refine kCall2_v (ws' := wC cI cZ cO x a t b ck Ho (sT σ) (sE σ) (sD σ) (sF σ) (sS σ) (sC σ) (sL σ) (nT gp gi am (sT σ) (sE σ) (sD σ) (sF σ) (sS σ) (sC σ) (sL σ) Lo Se Ef dl) (nE (sT σ) (sE σ) Se) (nD gp gi (sT σ) (sE σ) (sD σ) (sF σ) Se Ef) (sF σ) (nS gp gi (sT σ) (sE σ) (sD σ) (sF σ) (sS σ) (sC σ) (sL σ) Se Ef dl) (nC gp gi (sT σ) (sE σ) (sD σ) (sF σ) (sC σ) (sL σ) Se Ef) (((sL σ) + 1) % 9) Lo Se Ef gp gi am li dl) (W0 := wH cI cZ cO t b (sT σ) (sE σ) (sD σ) (sF σ) (sS σ) (sC σ) (sL σ) Lo Se Ef gp gi am li dl) (W1 := wH cI cZ cO t b (nT gp gi am (sT σ) (sE σ) (sD σ) (sF σ) (sS σ) (sC σ) (sL σ) Lo Se Ef dl) (nE (sT σ) (sE σ) Se) (nD gp gi (sT σ) (sE σ) (sD σ) (sF σ) Se Ef) (sF σ) (nS gp gi (sT σ) (sE σ) (sD σ) (sF σ) (sS σ) (sC σ) (sL σ) Se Ef dl) (nC gp gi (sT σ) (sE σ) (sD σ) (sF σ) (sC σ) (sL σ) Se Ef) (((sL σ) + 1) % 9) Lo Se Ef gp gi am li dl) hP hD hS hA pT pTR wC_tryC wC_tryC wC_tryR wC_len (by decide) (by decide) wC_tryF (va_runV (As := [.ref (b 0)]) (rest := []) ⟨hx, hb, hml, hown, hts⟩ (c_X0_runMinute l D cI cZ cO cJ t b (sT σ) (sE σ) (sD σ) (sF σ) (sS σ) (sC σ) (sL σ) Lo Se Ef gp gi am li dl H.size (h8) (h9)) (cwV (rm := rmX0_runMinute) 1 hts gX2_greatestTemperature_X0_runMinute rfl rfl rfl (by decide +kernel) ⟨Nat.le_of_ble_eq_true rfl, Nat.le_of_ble_eq_true rfl⟩) (kPreV hK hN hP hD pT rfl wC_tryC (va_recv hK hP (ci := 0) (q0 := 9) rfl rfl)) rfl rfl hl.1 rfl (lv_room (Nat.le_of_ble_eq_true rfl)) dX2_greatestTemperature_32 ⟨Nat.zero_le _, Nat.zero_le _⟩) (fun H locs hP hD hS => ?_)
  have hP : va_P D vwCl (wC cI cZ cO x a t b ck Ho (sT σ) (sE σ) (sD σ) (sF σ) (sS σ) (sC σ) (sL σ) (sT (hRun gp gi am Lo Se Ef dl 1 σ)) (sE (hRun gp gi am Lo Se Ef dl 1 σ)) (sD (hRun gp gi am Lo Se Ef dl 1 σ)) (sF (hRun gp gi am Lo Se Ef dl 1 σ)) (sS (hRun gp gi am Lo Se Ef dl 1 σ)) (sC (hRun gp gi am Lo Se Ef dl 1 σ)) (sL (hRun gp gi am Lo Se Ef dl 1 σ)) Lo Se Ef gp gi am li dl) H := hP
  have hD : va_D A (wC cI cZ cO x a t b ck Ho (sT σ) (sE σ) (sD σ) (sF σ) (sS σ) (sC σ) (sL σ) (sT (hRun gp gi am Lo Se Ef dl 1 σ)) (sE (hRun gp gi am Lo Se Ef dl 1 σ)) (sD (hRun gp gi am Lo Se Ef dl 1 σ)) (sF (hRun gp gi am Lo Se Ef dl 1 σ)) (sS (hRun gp gi am Lo Se Ef dl 1 σ)) (sC (hRun gp gi am Lo Se Ef dl 1 σ)) (sL (hRun gp gi am Lo Se Ef dl 1 σ)) Lo Se Ef gp gi am li dl) := hD
  refine lv_aload_n hx hb dX2_greatestTemperature_35 rfl (lv_at hl 0 rfl) ?_
  refine va_get (D := D) (ci := 2) (v := .ref (t 0)) (C := RX2) (T := TX2) (N := 5) hx hb hts hi_X2 hown hK hP 0 rfl rfl 2 (by decide) (hts (.fieldLink RX2 23 "Coldaisle" "trial" "LColdaisle$Hall;") (by decide +kernel)) (fun _ h9 => h9) rfl dX2_greatestTemperature_36 ?_
  refine va_get (D := D) (ci := 0) (v := .ref (t 1)) (C := RX0) (T := TX0) (N := 7) hx hb hts hi_X0 hown hK hP 9 rfl rfl 0 (by decide) (hts (.fieldLink RX2 110 "Coldaisle$Hall" "temperature" "[I") (by decide +kernel)) (fun _ h9 => h9) rfl dX2_greatestTemperature_39 ?_
  refine lv_iload_n hx hb dX2_greatestTemperature_42 rfl (lv_at hl 1 rfl) ?_
  refine k_iald hx hb hK hP 10 0 rfl rfl (i := z0) (by omega) (by decide) dX2_greatestTemperature_43 ?_
  refine lv_istore (lv' := [(4, .int ((sT (hRun gp gi am Lo Se Ef dl 1 σ)) z0)), (0, .ref (x 0)), (1, .int (nI z0)), (2, .int (nI (m9 + 1))), (3, .int (-1))]) hx hb dX2_greatestTemperature_44 hl (by decide) rfl (fun ls hl => ?_)
  refine lv_iconst (v := nI 1) hx hb dX2_greatestTemperature_46 (by decide +kernel) ?_
  refine lv_istore (lv' := [(5, .int (nI 1)), (4, .int ((sT (hRun gp gi am Lo Se Ef dl 1 σ)) z0)), (0, .ref (x 0)), (1, .int (nI z0)), (2, .int (nI (m9 + 1))), (3, .int (-1))]) hx hb dX2_greatestTemperature_47 hl (by decide) rfl (fun ls hl => ?_)
  have lp : ∀ (n z : Nat), z + n = m9 → ∀ (H : Heap) (locs : List Loc), va_P D vwCl (wC cI cZ cO x a t b ck Ho (sT σ) (sE σ) (sD σ) (sF σ) (sS σ) (sC σ) (sL σ) (sT (hRun gp gi am Lo Se Ef dl (z + 1) σ)) (sE (hRun gp gi am Lo Se Ef dl (z + 1) σ)) (sD (hRun gp gi am Lo Se Ef dl (z + 1) σ)) (sF (hRun gp gi am Lo Se Ef dl (z + 1) σ)) (sS (hRun gp gi am Lo Se Ef dl (z + 1) σ)) (sC (hRun gp gi am Lo Se Ef dl (z + 1) σ)) (sL (hRun gp gi am Lo Se Ef dl (z + 1) σ)) Lo Se Ef gp gi am li dl) H → va_D A (wC cI cZ cO x a t b ck Ho (sT σ) (sE σ) (sD σ) (sF σ) (sS σ) (sC σ) (sL σ) (sT (hRun gp gi am Lo Se Ef dl (z + 1) σ)) (sE (hRun gp gi am Lo Se Ef dl (z + 1) σ)) (sD (hRun gp gi am Lo Se Ef dl (z + 1) σ)) (sF (hRun gp gi am Lo Se Ef dl (z + 1) σ)) (sS (hRun gp gi am Lo Se Ef dl (z + 1) σ)) (sC (hRun gp gi am Lo Se Ef dl (z + 1) σ)) (sL (hRun gp gi am Lo Se Ef dl (z + 1) σ)) Lo Se Ef gp gi am li dl) → va_S A s.heap H locs → ∀ ls : Array Slot, lv_has ls 6 [(0, .ref (x 0)), (1, .int (nI z0)), (2, .int (nI (m9 + 1))), (3, .int (-1)), (4, .int (gTop (fun k => sT (hRun gp gi am Lo Se Ef dl (k + 1) σ) z0) z)), (5, .int (nI (z + 1)))] → W p l e rmX2_greatestTemperature s m args below meth c H locs 0 0 Q (F0 m 49 ls []) := by
    intro n
    induction n with
    | zero =>
      intro z hz H locs hP hD hS ls hl
      have hz9 : m9 = z := by omega
      subst hz9
      refine lv_iload hx hb dX2_greatestTemperature_49 (lv_at hl 5 rfl) ?_
      refine lv_iload_n hx hb dX2_greatestTemperature_51 rfl (lv_at hl 2 rfl) ?_
      refine lv_icmp_ge (tgt := 88) hx hb dX2_greatestTemperature_52 (by decide) (fun _ => ?_) (fun c9 => absurd (nI_le (Nat.le_refl _) (by omega)) c9)
      refine lv_iload hx hb dX2_greatestTemperature_88 (lv_at hl 4 rfl) ?_
      subst hQ9
      subst hA9
      exact kRet_i hx hb hr hlocks hP hS dX2_greatestTemperature_90 rfl
    | succ n ih =>
      intro z hz H locs hP hD hS ls hl
      have hzb : z < m9 := by omega
      refine lv_iload hx hb dX2_greatestTemperature_49 (lv_at hl 5 rfl) ?_
      refine lv_iload_n hx hb dX2_greatestTemperature_51 rfl (lv_at hl 2 rfl) ?_
      refine lv_icmp_ge (tgt := 88) hx hb dX2_greatestTemperature_52 (by decide) (fun c9 => absurd c9 (nI_ge (by omega) (by omega))) (fun _ => ?_)
      refine lv_aload_n hx hb dX2_greatestTemperature_55 rfl (lv_at hl 0 rfl) ?_
      refine va_get (D := D) (ci := 2) (v := .ref (t 0)) (C := RX2) (T := TX2) (N := 5) hx hb hts hi_X2 hown hK hP 0 rfl rfl 2 (by decide) (hts (.fieldLink RX2 23 "Coldaisle" "trial" "LColdaisle$Hall;") (by decide +kernel)) (fun _ h9 => h9) rfl dX2_greatestTemperature_56 ?_
      refine lv_aload_n hx hb dX2_greatestTemperature_59 rfl (lv_at hl 0 rfl) ?_
      refine va_get (D := D) (ci := 2) (v := .ref (b 0)) (C := RX2) (T := TX2) (N := 5) hx hb hts hi_X2 hown hK hP 0 rfl rfl 0 (by decide) (hts (.fieldLink RX2 10 "Coldaisle" "settings" "LColdaisle$Settings;") (by decide +kernel)) (fun _ h9 => h9) rfl dX2_greatestTemperature_60 ?_
      refine kCall2_v (ws' := wC cI cZ cO x a t b ck Ho (sT σ) (sE σ) (sD σ) (sF σ) (sS σ) (sC σ) (sL σ) (nT gp gi am (sT (hRun gp gi am Lo Se Ef dl (z + 1) σ)) (sE (hRun gp gi am Lo Se Ef dl (z + 1) σ)) (sD (hRun gp gi am Lo Se Ef dl (z + 1) σ)) (sF (hRun gp gi am Lo Se Ef dl (z + 1) σ)) (sS (hRun gp gi am Lo Se Ef dl (z + 1) σ)) (sC (hRun gp gi am Lo Se Ef dl (z + 1) σ)) (sL (hRun gp gi am Lo Se Ef dl (z + 1) σ)) Lo Se Ef dl) (nE (sT (hRun gp gi am Lo Se Ef dl (z + 1) σ)) (sE (hRun gp gi am Lo Se Ef dl (z + 1) σ)) Se) (nD gp gi (sT (hRun gp gi am Lo Se Ef dl (z + 1) σ)) (sE (hRun gp gi am Lo Se Ef dl (z + 1) σ)) (sD (hRun gp gi am Lo Se Ef dl (z + 1) σ)) (sF (hRun gp gi am Lo Se Ef dl (z + 1) σ)) Se Ef) (sF (hRun gp gi am Lo Se Ef dl (z + 1) σ)) (nS gp gi (sT (hRun gp gi am Lo Se Ef dl (z + 1) σ)) (sE (hRun gp gi am Lo Se Ef dl (z + 1) σ)) (sD (hRun gp gi am Lo Se Ef dl (z + 1) σ)) (sF (hRun gp gi am Lo Se Ef dl (z + 1) σ)) (sS (hRun gp gi am Lo Se Ef dl (z + 1) σ)) (sC (hRun gp gi am Lo Se Ef dl (z + 1) σ)) (sL (hRun gp gi am Lo Se Ef dl (z + 1) σ)) Se Ef dl) (nC gp gi (sT (hRun gp gi am Lo Se Ef dl (z + 1) σ)) (sE (hRun gp gi am Lo Se Ef dl (z + 1) σ)) (sD (hRun gp gi am Lo Se Ef dl (z + 1) σ)) (sF (hRun gp gi am Lo Se Ef dl (z + 1) σ)) (sC (hRun gp gi am Lo Se Ef dl (z + 1) σ)) (sL (hRun gp gi am Lo Se Ef dl (z + 1) σ)) Se Ef) (((sL (hRun gp gi am Lo Se Ef dl (z + 1) σ)) + 1) % 9) Lo Se Ef gp gi am li dl) (W0 := wH cI cZ cO t b (sT (hRun gp gi am Lo Se Ef dl (z + 1) σ)) (sE (hRun gp gi am Lo Se Ef dl (z + 1) σ)) (sD (hRun gp gi am Lo Se Ef dl (z + 1) σ)) (sF (hRun gp gi am Lo Se Ef dl (z + 1) σ)) (sS (hRun gp gi am Lo Se Ef dl (z + 1) σ)) (sC (hRun gp gi am Lo Se Ef dl (z + 1) σ)) (sL (hRun gp gi am Lo Se Ef dl (z + 1) σ)) Lo Se Ef gp gi am li dl) (W1 := wH cI cZ cO t b (nT gp gi am (sT (hRun gp gi am Lo Se Ef dl (z + 1) σ)) (sE (hRun gp gi am Lo Se Ef dl (z + 1) σ)) (sD (hRun gp gi am Lo Se Ef dl (z + 1) σ)) (sF (hRun gp gi am Lo Se Ef dl (z + 1) σ)) (sS (hRun gp gi am Lo Se Ef dl (z + 1) σ)) (sC (hRun gp gi am Lo Se Ef dl (z + 1) σ)) (sL (hRun gp gi am Lo Se Ef dl (z + 1) σ)) Lo Se Ef dl) (nE (sT (hRun gp gi am Lo Se Ef dl (z + 1) σ)) (sE (hRun gp gi am Lo Se Ef dl (z + 1) σ)) Se) (nD gp gi (sT (hRun gp gi am Lo Se Ef dl (z + 1) σ)) (sE (hRun gp gi am Lo Se Ef dl (z + 1) σ)) (sD (hRun gp gi am Lo Se Ef dl (z + 1) σ)) (sF (hRun gp gi am Lo Se Ef dl (z + 1) σ)) Se Ef) (sF (hRun gp gi am Lo Se Ef dl (z + 1) σ)) (nS gp gi (sT (hRun gp gi am Lo Se Ef dl (z + 1) σ)) (sE (hRun gp gi am Lo Se Ef dl (z + 1) σ)) (sD (hRun gp gi am Lo Se Ef dl (z + 1) σ)) (sF (hRun gp gi am Lo Se Ef dl (z + 1) σ)) (sS (hRun gp gi am Lo Se Ef dl (z + 1) σ)) (sC (hRun gp gi am Lo Se Ef dl (z + 1) σ)) (sL (hRun gp gi am Lo Se Ef dl (z + 1) σ)) Se Ef dl) (nC gp gi (sT (hRun gp gi am Lo Se Ef dl (z + 1) σ)) (sE (hRun gp gi am Lo Se Ef dl (z + 1) σ)) (sD (hRun gp gi am Lo Se Ef dl (z + 1) σ)) (sF (hRun gp gi am Lo Se Ef dl (z + 1) σ)) (sC (hRun gp gi am Lo Se Ef dl (z + 1) σ)) (sL (hRun gp gi am Lo Se Ef dl (z + 1) σ)) Se Ef) (((sL (hRun gp gi am Lo Se Ef dl (z + 1) σ)) + 1) % 9) Lo Se Ef gp gi am li dl) hP hD hS hA pT pTR wC_tryC wC_tryC wC_tryR wC_len (by decide) (by decide) wC_tryF (va_runV (As := [.ref (b 0)]) (rest := []) ⟨hx, hb, hml, hown, hts⟩ (c_X0_runMinute l D cI cZ cO cJ t b (sT (hRun gp gi am Lo Se Ef dl (z + 1) σ)) (sE (hRun gp gi am Lo Se Ef dl (z + 1) σ)) (sD (hRun gp gi am Lo Se Ef dl (z + 1) σ)) (sF (hRun gp gi am Lo Se Ef dl (z + 1) σ)) (sS (hRun gp gi am Lo Se Ef dl (z + 1) σ)) (sC (hRun gp gi am Lo Se Ef dl (z + 1) σ)) (sL (hRun gp gi am Lo Se Ef dl (z + 1) σ)) Lo Se Ef gp gi am li dl H.size (hRun_la (σ := σ) h8 (z + 1)) (h9)) (cwV (rm := rmX0_runMinute) 1 hts gX2_greatestTemperature_X0_runMinute rfl rfl rfl (by decide +kernel) ⟨Nat.le_of_ble_eq_true rfl, Nat.le_of_ble_eq_true rfl⟩) (kPreV hK hN hP hD pT rfl wC_tryC (va_recv hK hP (ci := 0) (q0 := 9) rfl rfl)) rfl rfl hl.1 rfl (lv_room (Nat.le_of_ble_eq_true rfl)) dX2_greatestTemperature_63 ⟨Nat.zero_le _, Nat.zero_le _⟩) (fun H locs hP hD hS => ?_)
      have hP : va_P D vwCl (wC cI cZ cO x a t b ck Ho (sT σ) (sE σ) (sD σ) (sF σ) (sS σ) (sC σ) (sL σ) (sT (hRun gp gi am Lo Se Ef dl (z + 1 + 1) σ)) (sE (hRun gp gi am Lo Se Ef dl (z + 1 + 1) σ)) (sD (hRun gp gi am Lo Se Ef dl (z + 1 + 1) σ)) (sF (hRun gp gi am Lo Se Ef dl (z + 1 + 1) σ)) (sS (hRun gp gi am Lo Se Ef dl (z + 1 + 1) σ)) (sC (hRun gp gi am Lo Se Ef dl (z + 1 + 1) σ)) (sL (hRun gp gi am Lo Se Ef dl (z + 1 + 1) σ)) Lo Se Ef gp gi am li dl) H := hP
      have hD : va_D A (wC cI cZ cO x a t b ck Ho (sT σ) (sE σ) (sD σ) (sF σ) (sS σ) (sC σ) (sL σ) (sT (hRun gp gi am Lo Se Ef dl (z + 1 + 1) σ)) (sE (hRun gp gi am Lo Se Ef dl (z + 1 + 1) σ)) (sD (hRun gp gi am Lo Se Ef dl (z + 1 + 1) σ)) (sF (hRun gp gi am Lo Se Ef dl (z + 1 + 1) σ)) (sS (hRun gp gi am Lo Se Ef dl (z + 1 + 1) σ)) (sC (hRun gp gi am Lo Se Ef dl (z + 1 + 1) σ)) (sL (hRun gp gi am Lo Se Ef dl (z + 1 + 1) σ)) Lo Se Ef gp gi am li dl) := hD
      refine lv_iload hx hb dX2_greatestTemperature_66 (lv_at hl 4 rfl) ?_
      refine lv_aload_n hx hb dX2_greatestTemperature_68 rfl (lv_at hl 0 rfl) ?_
      refine va_get (D := D) (ci := 2) (v := .ref (t 0)) (C := RX2) (T := TX2) (N := 5) hx hb hts hi_X2 hown hK hP 0 rfl rfl 2 (by decide) (hts (.fieldLink RX2 23 "Coldaisle" "trial" "LColdaisle$Hall;") (by decide +kernel)) (fun _ h9 => h9) rfl dX2_greatestTemperature_69 ?_
      refine va_get (D := D) (ci := 0) (v := .ref (t 1)) (C := RX0) (T := TX0) (N := 7) hx hb hts hi_X0 hown hK hP 9 rfl rfl 0 (by decide) (hts (.fieldLink RX2 110 "Coldaisle$Hall" "temperature" "[I") (by decide +kernel)) (fun _ h9 => h9) rfl dX2_greatestTemperature_72 ?_
      refine lv_iload_n hx hb dX2_greatestTemperature_75 rfl (lv_at hl 1 rfl) ?_
      refine k_iald hx hb hK hP 10 0 rfl rfl (i := z0) (by omega) (by decide) dX2_greatestTemperature_76 ?_
      refine va_mmax hx hb (by rw [hml]; exact hl.1.symm) hown (hts (.methodLink RX2 132 Lib.Math.max.name) (by decide +kernel)) (hts (.static Lib.Math.max.name) (by decide +kernel)) (hts (.initialized "java/lang/Math") (by decide +kernel)) (hts (.code Lib.Math.max.name Lib.Math.max.code 2 (some .int)) (by decide +kernel)) (Nat.le_of_ble_eq_true rfl) (Nat.le_of_ble_eq_true rfl) (Nat.zero_le _) (Nat.zero_le _) (x := gTop (fun k => sT (hRun gp gi am Lo Se Ef dl (k + 1) σ) z0) z) (y := (sT (hRun gp gi am Lo Se Ef dl (z + 1 + 1) σ)) z0) dX2_greatestTemperature_77 ?_
      refine k_as (y := mMax (gTop (fun k => sT (hRun gp gi am Lo Se Ef dl (k + 1) σ) z0) z) ((sT (hRun gp gi am Lo Se Ef dl (z + 1 + 1) σ)) z0)) rfl ?_
      refine lv_istore (lv' := [(4, .int (mMax (gTop (fun k => sT (hRun gp gi am Lo Se Ef dl (k + 1) σ) z0) z) ((sT (hRun gp gi am Lo Se Ef dl (z + 1 + 1) σ)) z0))), (0, .ref (x 0)), (1, .int (nI z0)), (2, .int (nI (m9 + 1))), (3, .int (-1)), (5, .int (nI (z + 1)))]) hx hb dX2_greatestTemperature_80 hl (by decide) rfl (fun ls hl => ?_)
      refine lv_iinc (v := nI (z + 1 + 1)) (lv' := [(5, .int (nI (z + 1 + 1))), (4, .int (mMax (gTop (fun k => sT (hRun gp gi am Lo Se Ef dl (k + 1) σ) z0) z) ((sT (hRun gp gi am Lo Se Ef dl (z + 1 + 1) σ)) z0))), (0, .ref (x 0)), (1, .int (nI z0)), (2, .int (nI (m9 + 1))), (3, .int (-1))]) hx hb dX2_greatestTemperature_82 hl (k := 5) rfl (k_inc _) (by decide) rfl (fun ls hl => ?_)
      refine lv_goto (tgt := 49) hx hb dX2_greatestTemperature_85 (by decide) ?_
      exact ih (z + 1) (by omega) H locs hP hD hS ls (lv_sub hl [2, 3, 4, 5, 1, 0] rfl)
  exact lp m9 0 (by omega) H locs hP hD hS ls (lv_sub hl [2, 3, 4, 5, 1, 0] rfl)

set_option maxHeartbeats 4000000 in
set_option maxRecDepth 100000 in
/-- greatestTemperature -/
theorem c_X2_greatestTemperature_f (l : Launch) (D : va_G) (cI cZ cO cJ : ClassId) (x a t b : Nat → Nat) (ck : Nat) (Ho : Nat → Int32) (σ : HS) (T1 E1 D1 F1 S1 : Nat → Int32) (C1 : Nat → Nat → Int32) (la1 : Nat) (Lo Se : Nat → Int32) (Ef : Nat → Nat → Int32) (gp gi am li : Int32) (dl : Nat) (z0 m9 f : Nat) (sz : Nat) (hz0 : z0 < 6) (hm : m9 < 60) (hf : f < 8) (h8 : sL σ < 9) (h9 : dl < 9) (hFb : ∀ f : Nat, f < 8 → sF σ f = nI 0 ∨ sF σ f = nI 1) : kMi l yX2_greatestTemperature wsX2_greatestTemperature rmX2_greatestTemperature D (kT cI cZ cO cJ) [.ref (x 0), .int (nI z0), .int (nI (m9 + 1)), .int (nI f)] (wC cI cZ cO x a t b ck Ho (sT σ) (sE σ) (sD σ) (sF σ) (sS σ) (sC σ) (sL σ) T1 E1 D1 F1 S1 C1 la1 Lo Se Ef gp gi am li dl) (wC cI cZ cO x a t b ck Ho (sT σ) (sE σ) (sD σ) (sF σ) (sS σ) (sC σ) (sL σ) (sT (hRun gp gi am Lo Se Ef dl (m9 + 1) (hFail σ f))) (sE (hRun gp gi am Lo Se Ef dl (m9 + 1) (hFail σ f))) (sD (hRun gp gi am Lo Se Ef dl (m9 + 1) (hFail σ f))) (sF (hRun gp gi am Lo Se Ef dl (m9 + 1) (hFail σ f))) (sS (hRun gp gi am Lo Se Ef dl (m9 + 1) (hFail σ f))) (sC (hRun gp gi am Lo Se Ef dl (m9 + 1) (hFail σ f))) (sL (hRun gp gi am Lo Se Ef dl (m9 + 1) (hFail σ f))) Lo Se Ef gp gi am li dl) sz (gOf gp gi am Lo Se Ef dl (hFail σ f) z0 m9) := by
  refine kEnter (cc := cX2_greatestTemperature) (maxL := 6) (ret := some .int) (by decide +kernel) rfl (Nat.le_of_ble_eq_true rfl) ?_
  intro p e s m below meth c args hx hb hr hml hts hown hlocks hin hK hN A hA9 Q hQ9 hP hD hsz hS hA ls hl
  have hl : lv_has ls 6 [(0, .ref (x 0)), (1, .int (nI z0)), (2, .int (nI (m9 + 1))), (3, .int (nI f))] := hl
  have hi_X2 : ∀ w ∈ u_ws RX2 TX2 5, w ∈ wsX2_greatestTemperature := by decide +kernel
  have hi_X0 : ∀ w ∈ u_ws RX0 TX0 7, w ∈ wsX2_greatestTemperature := by decide +kernel
  obtain ⟨H, hH9⟩ : ∃ H, H = s.heap := ⟨_, rfl⟩
  rw [← hH9] at hP ⊢
  have hS : va_S A s.heap H [] := by rw [hH9]; exact va_S.rf
  refine lv_aload_n hx hb dX2_greatestTemperature_0 rfl (lv_at hl 0 rfl) ?_
  refine va_get (D := D) (ci := 2) (v := .ref (t 0)) (C := RX2) (T := TX2) (N := 5) hx hb hts hi_X2 hown hK hP 0 rfl rfl 2 (by decide) (hts (.fieldLink RX2 23 "Coldaisle" "trial" "LColdaisle$Hall;") (by decide +kernel)) (fun _ h9 => h9) rfl dX2_greatestTemperature_1 ?_
  refine lv_aload_n hx hb dX2_greatestTemperature_4 rfl (lv_at hl 0 rfl) ?_
  refine va_get (D := D) (ci := 2) (v := .ref (a 0)) (C := RX2) (T := TX2) (N := 5) hx hb hts hi_X2 hown hK hP 0 rfl rfl 1 (by decide) (hts (.fieldLink RX2 19 "Coldaisle" "hall" "LColdaisle$Hall;") (by decide +kernel)) (fun _ h9 => h9) rfl dX2_greatestTemperature_5 ?_
  refine kCallW_v (W1 := wC cI cZ cO x a t b ck Ho (sT σ) (sE σ) (sD σ) (sF σ) (sS σ) (sC σ) (sL σ) (sT σ) (sE σ) (sD σ) (sF σ) (sS σ) (sC σ) (sL σ) Lo Se Ef gp gi am li dl) hD hS hA rfl (va_runV (As := [.ref (a 0)]) (rest := []) ⟨hx, hb, hml, hown, hts⟩ (c_X0_copyFrom l D cI cZ cO cJ x a t b ck Ho (sT σ) (sE σ) (sD σ) (sF σ) (sS σ) (sC σ) (sL σ) T1 E1 D1 F1 S1 C1 la1 Lo Se Ef gp gi am li dl H.size hFb) (cwV (rm := rmX0_copyFrom) 1 hts gX2_greatestTemperature_X0_copyFrom rfl rfl rfl (by decide +kernel) ⟨Nat.le_of_ble_eq_true rfl, Nat.le_of_ble_eq_true rfl⟩) (kPreVW hK hN hP hD (va_recv hK hP (ci := 0) (q0 := 9) rfl rfl)) rfl rfl hl.1 rfl (lv_room (Nat.le_of_ble_eq_true rfl)) dX2_greatestTemperature_8 ⟨Nat.zero_le _, Nat.zero_le _⟩) (fun H locs hP hD hS => ?_)
  refine lv_iload_n hx hb dX2_greatestTemperature_11 rfl (lv_at hl 3 rfl) ?_
  refine lv_iconst (v := (-1)) hx hb dX2_greatestTemperature_12 (by decide +kernel) ?_
  refine lv_icmp_eq (tgt := 24) hx hb dX2_greatestTemperature_13 (by decide) (fun c9 => absurd c9 (nI_m1 (by omega))) (fun _ => ?_)
  refine lv_aload_n hx hb dX2_greatestTemperature_16 rfl (lv_at hl 0 rfl) ?_
  refine va_get (D := D) (ci := 2) (v := .ref (t 0)) (C := RX2) (T := TX2) (N := 5) hx hb hts hi_X2 hown hK hP 0 rfl rfl 2 (by decide) (hts (.fieldLink RX2 23 "Coldaisle" "trial" "LColdaisle$Hall;") (by decide +kernel)) (fun _ h9 => h9) rfl dX2_greatestTemperature_17 ?_
  refine lv_iload_n hx hb dX2_greatestTemperature_20 rfl (lv_at hl 3 rfl) ?_
  refine kCall2_v (ws' := wC cI cZ cO x a t b ck Ho (sT σ) (sE σ) (sD σ) (sF σ) (sS σ) (sC σ) (sL σ) (sT σ) (sE σ) (sD σ) (upd (sF σ) f (nI 1)) (upd (sS σ) f (nI 0)) (sC σ) (sL σ) Lo Se Ef gp gi am li dl) (W0 := wH cI cZ cO t b (sT σ) (sE σ) (sD σ) (sF σ) (sS σ) (sC σ) (sL σ) Lo Se Ef gp gi am li dl) (W1 := wH cI cZ cO t b (sT σ) (sE σ) (sD σ) (upd (sF σ) f (nI 1)) (upd (sS σ) f (nI 0)) (sC σ) (sL σ) Lo Se Ef gp gi am li dl) hP hD hS hA pT pTR wC_tryC wC_tryC wC_tryR wC_len (by decide) (by decide) wC_tryF (va_runV (As := [.int (nI f)]) (rest := []) ⟨hx, hb, hml, hown, hts⟩ (c_X0_stopFan l D cI cZ cO cJ t b (sT σ) (sE σ) (sD σ) (sF σ) (sS σ) (sC σ) (sL σ) Lo Se Ef gp gi am li dl f H.size (by omega)) (cwV (rm := rmX0_stopFan) 1 hts gX2_greatestTemperature_X0_stopFan rfl rfl rfl (by decide +kernel) ⟨Nat.le_of_ble_eq_true rfl, Nat.le_of_ble_eq_true rfl⟩) (kPreV hK hN hP hD pT rfl wC_tryC (va_recv hK hP (ci := 0) (q0 := 9) rfl rfl)) rfl rfl hl.1 rfl (lv_room (Nat.le_of_ble_eq_true rfl)) dX2_greatestTemperature_21 ⟨Nat.zero_le _, Nat.zero_le _⟩) (fun H locs hP hD hS => ?_)
  refine lv_aload_n hx hb dX2_greatestTemperature_24 rfl (lv_at hl 0 rfl) ?_
  refine va_get (D := D) (ci := 2) (v := .ref (t 0)) (C := RX2) (T := TX2) (N := 5) hx hb hts hi_X2 hown hK hP 0 rfl rfl 2 (by decide) (hts (.fieldLink RX2 23 "Coldaisle" "trial" "LColdaisle$Hall;") (by decide +kernel)) (fun _ h9 => h9) rfl dX2_greatestTemperature_25 ?_
  refine lv_aload_n hx hb dX2_greatestTemperature_28 rfl (lv_at hl 0 rfl) ?_
  refine va_get (D := D) (ci := 2) (v := .ref (b 0)) (C := RX2) (T := TX2) (N := 5) hx hb hts hi_X2 hown hK hP 0 rfl rfl 0 (by decide) (hts (.fieldLink RX2 10 "Coldaisle" "settings" "LColdaisle$Settings;") (by decide +kernel)) (fun _ h9 => h9) rfl dX2_greatestTemperature_29 ?_
  refine kCall2_v (ws' := wC cI cZ cO x a t b ck Ho (sT σ) (sE σ) (sD σ) (sF σ) (sS σ) (sC σ) (sL σ) (nT gp gi am (sT σ) (sE σ) (sD σ) (upd (sF σ) f (nI 1)) (upd (sS σ) f (nI 0)) (sC σ) (sL σ) Lo Se Ef dl) (nE (sT σ) (sE σ) Se) (nD gp gi (sT σ) (sE σ) (sD σ) (upd (sF σ) f (nI 1)) Se Ef) (upd (sF σ) f (nI 1)) (nS gp gi (sT σ) (sE σ) (sD σ) (upd (sF σ) f (nI 1)) (upd (sS σ) f (nI 0)) (sC σ) (sL σ) Se Ef dl) (nC gp gi (sT σ) (sE σ) (sD σ) (upd (sF σ) f (nI 1)) (sC σ) (sL σ) Se Ef) (((sL σ) + 1) % 9) Lo Se Ef gp gi am li dl) (W0 := wH cI cZ cO t b (sT σ) (sE σ) (sD σ) (upd (sF σ) f (nI 1)) (upd (sS σ) f (nI 0)) (sC σ) (sL σ) Lo Se Ef gp gi am li dl) (W1 := wH cI cZ cO t b (nT gp gi am (sT σ) (sE σ) (sD σ) (upd (sF σ) f (nI 1)) (upd (sS σ) f (nI 0)) (sC σ) (sL σ) Lo Se Ef dl) (nE (sT σ) (sE σ) Se) (nD gp gi (sT σ) (sE σ) (sD σ) (upd (sF σ) f (nI 1)) Se Ef) (upd (sF σ) f (nI 1)) (nS gp gi (sT σ) (sE σ) (sD σ) (upd (sF σ) f (nI 1)) (upd (sS σ) f (nI 0)) (sC σ) (sL σ) Se Ef dl) (nC gp gi (sT σ) (sE σ) (sD σ) (upd (sF σ) f (nI 1)) (sC σ) (sL σ) Se Ef) (((sL σ) + 1) % 9) Lo Se Ef gp gi am li dl) hP hD hS hA pT pTR wC_tryC wC_tryC wC_tryR wC_len (by decide) (by decide) wC_tryF (va_runV (As := [.ref (b 0)]) (rest := []) ⟨hx, hb, hml, hown, hts⟩ (c_X0_runMinute l D cI cZ cO cJ t b (sT σ) (sE σ) (sD σ) (upd (sF σ) f (nI 1)) (upd (sS σ) f (nI 0)) (sC σ) (sL σ) Lo Se Ef gp gi am li dl H.size (h8) (h9)) (cwV (rm := rmX0_runMinute) 1 hts gX2_greatestTemperature_X0_runMinute rfl rfl rfl (by decide +kernel) ⟨Nat.le_of_ble_eq_true rfl, Nat.le_of_ble_eq_true rfl⟩) (kPreV hK hN hP hD pT rfl wC_tryC (va_recv hK hP (ci := 0) (q0 := 9) rfl rfl)) rfl rfl hl.1 rfl (lv_room (Nat.le_of_ble_eq_true rfl)) dX2_greatestTemperature_32 ⟨Nat.zero_le _, Nat.zero_le _⟩) (fun H locs hP hD hS => ?_)
  have hP : va_P D vwCl (wC cI cZ cO x a t b ck Ho (sT σ) (sE σ) (sD σ) (sF σ) (sS σ) (sC σ) (sL σ) (sT (hRun gp gi am Lo Se Ef dl 1 (hFail σ f))) (sE (hRun gp gi am Lo Se Ef dl 1 (hFail σ f))) (sD (hRun gp gi am Lo Se Ef dl 1 (hFail σ f))) (sF (hRun gp gi am Lo Se Ef dl 1 (hFail σ f))) (sS (hRun gp gi am Lo Se Ef dl 1 (hFail σ f))) (sC (hRun gp gi am Lo Se Ef dl 1 (hFail σ f))) (sL (hRun gp gi am Lo Se Ef dl 1 (hFail σ f))) Lo Se Ef gp gi am li dl) H := hP
  have hD : va_D A (wC cI cZ cO x a t b ck Ho (sT σ) (sE σ) (sD σ) (sF σ) (sS σ) (sC σ) (sL σ) (sT (hRun gp gi am Lo Se Ef dl 1 (hFail σ f))) (sE (hRun gp gi am Lo Se Ef dl 1 (hFail σ f))) (sD (hRun gp gi am Lo Se Ef dl 1 (hFail σ f))) (sF (hRun gp gi am Lo Se Ef dl 1 (hFail σ f))) (sS (hRun gp gi am Lo Se Ef dl 1 (hFail σ f))) (sC (hRun gp gi am Lo Se Ef dl 1 (hFail σ f))) (sL (hRun gp gi am Lo Se Ef dl 1 (hFail σ f))) Lo Se Ef gp gi am li dl) := hD
  refine lv_aload_n hx hb dX2_greatestTemperature_35 rfl (lv_at hl 0 rfl) ?_
  refine va_get (D := D) (ci := 2) (v := .ref (t 0)) (C := RX2) (T := TX2) (N := 5) hx hb hts hi_X2 hown hK hP 0 rfl rfl 2 (by decide) (hts (.fieldLink RX2 23 "Coldaisle" "trial" "LColdaisle$Hall;") (by decide +kernel)) (fun _ h9 => h9) rfl dX2_greatestTemperature_36 ?_
  refine va_get (D := D) (ci := 0) (v := .ref (t 1)) (C := RX0) (T := TX0) (N := 7) hx hb hts hi_X0 hown hK hP 9 rfl rfl 0 (by decide) (hts (.fieldLink RX2 110 "Coldaisle$Hall" "temperature" "[I") (by decide +kernel)) (fun _ h9 => h9) rfl dX2_greatestTemperature_39 ?_
  refine lv_iload_n hx hb dX2_greatestTemperature_42 rfl (lv_at hl 1 rfl) ?_
  refine k_iald hx hb hK hP 10 0 rfl rfl (i := z0) (by omega) (by decide) dX2_greatestTemperature_43 ?_
  refine lv_istore (lv' := [(4, .int ((sT (hRun gp gi am Lo Se Ef dl 1 (hFail σ f))) z0)), (0, .ref (x 0)), (1, .int (nI z0)), (2, .int (nI (m9 + 1))), (3, .int (nI f))]) hx hb dX2_greatestTemperature_44 hl (by decide) rfl (fun ls hl => ?_)
  refine lv_iconst (v := nI 1) hx hb dX2_greatestTemperature_46 (by decide +kernel) ?_
  refine lv_istore (lv' := [(5, .int (nI 1)), (4, .int ((sT (hRun gp gi am Lo Se Ef dl 1 (hFail σ f))) z0)), (0, .ref (x 0)), (1, .int (nI z0)), (2, .int (nI (m9 + 1))), (3, .int (nI f))]) hx hb dX2_greatestTemperature_47 hl (by decide) rfl (fun ls hl => ?_)
  have lp : ∀ (n z : Nat), z + n = m9 → ∀ (H : Heap) (locs : List Loc), va_P D vwCl (wC cI cZ cO x a t b ck Ho (sT σ) (sE σ) (sD σ) (sF σ) (sS σ) (sC σ) (sL σ) (sT (hRun gp gi am Lo Se Ef dl (z + 1) (hFail σ f))) (sE (hRun gp gi am Lo Se Ef dl (z + 1) (hFail σ f))) (sD (hRun gp gi am Lo Se Ef dl (z + 1) (hFail σ f))) (sF (hRun gp gi am Lo Se Ef dl (z + 1) (hFail σ f))) (sS (hRun gp gi am Lo Se Ef dl (z + 1) (hFail σ f))) (sC (hRun gp gi am Lo Se Ef dl (z + 1) (hFail σ f))) (sL (hRun gp gi am Lo Se Ef dl (z + 1) (hFail σ f))) Lo Se Ef gp gi am li dl) H → va_D A (wC cI cZ cO x a t b ck Ho (sT σ) (sE σ) (sD σ) (sF σ) (sS σ) (sC σ) (sL σ) (sT (hRun gp gi am Lo Se Ef dl (z + 1) (hFail σ f))) (sE (hRun gp gi am Lo Se Ef dl (z + 1) (hFail σ f))) (sD (hRun gp gi am Lo Se Ef dl (z + 1) (hFail σ f))) (sF (hRun gp gi am Lo Se Ef dl (z + 1) (hFail σ f))) (sS (hRun gp gi am Lo Se Ef dl (z + 1) (hFail σ f))) (sC (hRun gp gi am Lo Se Ef dl (z + 1) (hFail σ f))) (sL (hRun gp gi am Lo Se Ef dl (z + 1) (hFail σ f))) Lo Se Ef gp gi am li dl) → va_S A s.heap H locs → ∀ ls : Array Slot, lv_has ls 6 [(0, .ref (x 0)), (1, .int (nI z0)), (2, .int (nI (m9 + 1))), (3, .int (nI f)), (4, .int (gTop (fun k => sT (hRun gp gi am Lo Se Ef dl (k + 1) (hFail σ f)) z0) z)), (5, .int (nI (z + 1)))] → W p l e rmX2_greatestTemperature s m args below meth c H locs 0 0 Q (F0 m 49 ls []) := by
    intro n
    induction n with
    | zero =>
      intro z hz H locs hP hD hS ls hl
      have hz9 : m9 = z := by omega
      subst hz9
      refine lv_iload hx hb dX2_greatestTemperature_49 (lv_at hl 5 rfl) ?_
      refine lv_iload_n hx hb dX2_greatestTemperature_51 rfl (lv_at hl 2 rfl) ?_
      refine lv_icmp_ge (tgt := 88) hx hb dX2_greatestTemperature_52 (by decide) (fun _ => ?_) (fun c9 => absurd (nI_le (Nat.le_refl _) (by omega)) c9)
      refine lv_iload hx hb dX2_greatestTemperature_88 (lv_at hl 4 rfl) ?_
      subst hQ9
      subst hA9
      exact kRet_i hx hb hr hlocks hP hS dX2_greatestTemperature_90 rfl
    | succ n ih =>
      intro z hz H locs hP hD hS ls hl
      have hzb : z < m9 := by omega
      refine lv_iload hx hb dX2_greatestTemperature_49 (lv_at hl 5 rfl) ?_
      refine lv_iload_n hx hb dX2_greatestTemperature_51 rfl (lv_at hl 2 rfl) ?_
      refine lv_icmp_ge (tgt := 88) hx hb dX2_greatestTemperature_52 (by decide) (fun c9 => absurd c9 (nI_ge (by omega) (by omega))) (fun _ => ?_)
      refine lv_aload_n hx hb dX2_greatestTemperature_55 rfl (lv_at hl 0 rfl) ?_
      refine va_get (D := D) (ci := 2) (v := .ref (t 0)) (C := RX2) (T := TX2) (N := 5) hx hb hts hi_X2 hown hK hP 0 rfl rfl 2 (by decide) (hts (.fieldLink RX2 23 "Coldaisle" "trial" "LColdaisle$Hall;") (by decide +kernel)) (fun _ h9 => h9) rfl dX2_greatestTemperature_56 ?_
      refine lv_aload_n hx hb dX2_greatestTemperature_59 rfl (lv_at hl 0 rfl) ?_
      refine va_get (D := D) (ci := 2) (v := .ref (b 0)) (C := RX2) (T := TX2) (N := 5) hx hb hts hi_X2 hown hK hP 0 rfl rfl 0 (by decide) (hts (.fieldLink RX2 10 "Coldaisle" "settings" "LColdaisle$Settings;") (by decide +kernel)) (fun _ h9 => h9) rfl dX2_greatestTemperature_60 ?_
      refine kCall2_v (ws' := wC cI cZ cO x a t b ck Ho (sT σ) (sE σ) (sD σ) (sF σ) (sS σ) (sC σ) (sL σ) (nT gp gi am (sT (hRun gp gi am Lo Se Ef dl (z + 1) (hFail σ f))) (sE (hRun gp gi am Lo Se Ef dl (z + 1) (hFail σ f))) (sD (hRun gp gi am Lo Se Ef dl (z + 1) (hFail σ f))) (sF (hRun gp gi am Lo Se Ef dl (z + 1) (hFail σ f))) (sS (hRun gp gi am Lo Se Ef dl (z + 1) (hFail σ f))) (sC (hRun gp gi am Lo Se Ef dl (z + 1) (hFail σ f))) (sL (hRun gp gi am Lo Se Ef dl (z + 1) (hFail σ f))) Lo Se Ef dl) (nE (sT (hRun gp gi am Lo Se Ef dl (z + 1) (hFail σ f))) (sE (hRun gp gi am Lo Se Ef dl (z + 1) (hFail σ f))) Se) (nD gp gi (sT (hRun gp gi am Lo Se Ef dl (z + 1) (hFail σ f))) (sE (hRun gp gi am Lo Se Ef dl (z + 1) (hFail σ f))) (sD (hRun gp gi am Lo Se Ef dl (z + 1) (hFail σ f))) (sF (hRun gp gi am Lo Se Ef dl (z + 1) (hFail σ f))) Se Ef) (sF (hRun gp gi am Lo Se Ef dl (z + 1) (hFail σ f))) (nS gp gi (sT (hRun gp gi am Lo Se Ef dl (z + 1) (hFail σ f))) (sE (hRun gp gi am Lo Se Ef dl (z + 1) (hFail σ f))) (sD (hRun gp gi am Lo Se Ef dl (z + 1) (hFail σ f))) (sF (hRun gp gi am Lo Se Ef dl (z + 1) (hFail σ f))) (sS (hRun gp gi am Lo Se Ef dl (z + 1) (hFail σ f))) (sC (hRun gp gi am Lo Se Ef dl (z + 1) (hFail σ f))) (sL (hRun gp gi am Lo Se Ef dl (z + 1) (hFail σ f))) Se Ef dl) (nC gp gi (sT (hRun gp gi am Lo Se Ef dl (z + 1) (hFail σ f))) (sE (hRun gp gi am Lo Se Ef dl (z + 1) (hFail σ f))) (sD (hRun gp gi am Lo Se Ef dl (z + 1) (hFail σ f))) (sF (hRun gp gi am Lo Se Ef dl (z + 1) (hFail σ f))) (sC (hRun gp gi am Lo Se Ef dl (z + 1) (hFail σ f))) (sL (hRun gp gi am Lo Se Ef dl (z + 1) (hFail σ f))) Se Ef) (((sL (hRun gp gi am Lo Se Ef dl (z + 1) (hFail σ f))) + 1) % 9) Lo Se Ef gp gi am li dl) (W0 := wH cI cZ cO t b (sT (hRun gp gi am Lo Se Ef dl (z + 1) (hFail σ f))) (sE (hRun gp gi am Lo Se Ef dl (z + 1) (hFail σ f))) (sD (hRun gp gi am Lo Se Ef dl (z + 1) (hFail σ f))) (sF (hRun gp gi am Lo Se Ef dl (z + 1) (hFail σ f))) (sS (hRun gp gi am Lo Se Ef dl (z + 1) (hFail σ f))) (sC (hRun gp gi am Lo Se Ef dl (z + 1) (hFail σ f))) (sL (hRun gp gi am Lo Se Ef dl (z + 1) (hFail σ f))) Lo Se Ef gp gi am li dl) (W1 := wH cI cZ cO t b (nT gp gi am (sT (hRun gp gi am Lo Se Ef dl (z + 1) (hFail σ f))) (sE (hRun gp gi am Lo Se Ef dl (z + 1) (hFail σ f))) (sD (hRun gp gi am Lo Se Ef dl (z + 1) (hFail σ f))) (sF (hRun gp gi am Lo Se Ef dl (z + 1) (hFail σ f))) (sS (hRun gp gi am Lo Se Ef dl (z + 1) (hFail σ f))) (sC (hRun gp gi am Lo Se Ef dl (z + 1) (hFail σ f))) (sL (hRun gp gi am Lo Se Ef dl (z + 1) (hFail σ f))) Lo Se Ef dl) (nE (sT (hRun gp gi am Lo Se Ef dl (z + 1) (hFail σ f))) (sE (hRun gp gi am Lo Se Ef dl (z + 1) (hFail σ f))) Se) (nD gp gi (sT (hRun gp gi am Lo Se Ef dl (z + 1) (hFail σ f))) (sE (hRun gp gi am Lo Se Ef dl (z + 1) (hFail σ f))) (sD (hRun gp gi am Lo Se Ef dl (z + 1) (hFail σ f))) (sF (hRun gp gi am Lo Se Ef dl (z + 1) (hFail σ f))) Se Ef) (sF (hRun gp gi am Lo Se Ef dl (z + 1) (hFail σ f))) (nS gp gi (sT (hRun gp gi am Lo Se Ef dl (z + 1) (hFail σ f))) (sE (hRun gp gi am Lo Se Ef dl (z + 1) (hFail σ f))) (sD (hRun gp gi am Lo Se Ef dl (z + 1) (hFail σ f))) (sF (hRun gp gi am Lo Se Ef dl (z + 1) (hFail σ f))) (sS (hRun gp gi am Lo Se Ef dl (z + 1) (hFail σ f))) (sC (hRun gp gi am Lo Se Ef dl (z + 1) (hFail σ f))) (sL (hRun gp gi am Lo Se Ef dl (z + 1) (hFail σ f))) Se Ef dl) (nC gp gi (sT (hRun gp gi am Lo Se Ef dl (z + 1) (hFail σ f))) (sE (hRun gp gi am Lo Se Ef dl (z + 1) (hFail σ f))) (sD (hRun gp gi am Lo Se Ef dl (z + 1) (hFail σ f))) (sF (hRun gp gi am Lo Se Ef dl (z + 1) (hFail σ f))) (sC (hRun gp gi am Lo Se Ef dl (z + 1) (hFail σ f))) (sL (hRun gp gi am Lo Se Ef dl (z + 1) (hFail σ f))) Se Ef) (((sL (hRun gp gi am Lo Se Ef dl (z + 1) (hFail σ f))) + 1) % 9) Lo Se Ef gp gi am li dl) hP hD hS hA pT pTR wC_tryC wC_tryC wC_tryR wC_len (by decide) (by decide) wC_tryF (va_runV (As := [.ref (b 0)]) (rest := []) ⟨hx, hb, hml, hown, hts⟩ (c_X0_runMinute l D cI cZ cO cJ t b (sT (hRun gp gi am Lo Se Ef dl (z + 1) (hFail σ f))) (sE (hRun gp gi am Lo Se Ef dl (z + 1) (hFail σ f))) (sD (hRun gp gi am Lo Se Ef dl (z + 1) (hFail σ f))) (sF (hRun gp gi am Lo Se Ef dl (z + 1) (hFail σ f))) (sS (hRun gp gi am Lo Se Ef dl (z + 1) (hFail σ f))) (sC (hRun gp gi am Lo Se Ef dl (z + 1) (hFail σ f))) (sL (hRun gp gi am Lo Se Ef dl (z + 1) (hFail σ f))) Lo Se Ef gp gi am li dl H.size (hRun_la (σ := hFail σ f) h8 (z + 1)) (h9)) (cwV (rm := rmX0_runMinute) 1 hts gX2_greatestTemperature_X0_runMinute rfl rfl rfl (by decide +kernel) ⟨Nat.le_of_ble_eq_true rfl, Nat.le_of_ble_eq_true rfl⟩) (kPreV hK hN hP hD pT rfl wC_tryC (va_recv hK hP (ci := 0) (q0 := 9) rfl rfl)) rfl rfl hl.1 rfl (lv_room (Nat.le_of_ble_eq_true rfl)) dX2_greatestTemperature_63 ⟨Nat.zero_le _, Nat.zero_le _⟩) (fun H locs hP hD hS => ?_)
      have hP : va_P D vwCl (wC cI cZ cO x a t b ck Ho (sT σ) (sE σ) (sD σ) (sF σ) (sS σ) (sC σ) (sL σ) (sT (hRun gp gi am Lo Se Ef dl (z + 1 + 1) (hFail σ f))) (sE (hRun gp gi am Lo Se Ef dl (z + 1 + 1) (hFail σ f))) (sD (hRun gp gi am Lo Se Ef dl (z + 1 + 1) (hFail σ f))) (sF (hRun gp gi am Lo Se Ef dl (z + 1 + 1) (hFail σ f))) (sS (hRun gp gi am Lo Se Ef dl (z + 1 + 1) (hFail σ f))) (sC (hRun gp gi am Lo Se Ef dl (z + 1 + 1) (hFail σ f))) (sL (hRun gp gi am Lo Se Ef dl (z + 1 + 1) (hFail σ f))) Lo Se Ef gp gi am li dl) H := hP
      have hD : va_D A (wC cI cZ cO x a t b ck Ho (sT σ) (sE σ) (sD σ) (sF σ) (sS σ) (sC σ) (sL σ) (sT (hRun gp gi am Lo Se Ef dl (z + 1 + 1) (hFail σ f))) (sE (hRun gp gi am Lo Se Ef dl (z + 1 + 1) (hFail σ f))) (sD (hRun gp gi am Lo Se Ef dl (z + 1 + 1) (hFail σ f))) (sF (hRun gp gi am Lo Se Ef dl (z + 1 + 1) (hFail σ f))) (sS (hRun gp gi am Lo Se Ef dl (z + 1 + 1) (hFail σ f))) (sC (hRun gp gi am Lo Se Ef dl (z + 1 + 1) (hFail σ f))) (sL (hRun gp gi am Lo Se Ef dl (z + 1 + 1) (hFail σ f))) Lo Se Ef gp gi am li dl) := hD
      refine lv_iload hx hb dX2_greatestTemperature_66 (lv_at hl 4 rfl) ?_
      refine lv_aload_n hx hb dX2_greatestTemperature_68 rfl (lv_at hl 0 rfl) ?_
      refine va_get (D := D) (ci := 2) (v := .ref (t 0)) (C := RX2) (T := TX2) (N := 5) hx hb hts hi_X2 hown hK hP 0 rfl rfl 2 (by decide) (hts (.fieldLink RX2 23 "Coldaisle" "trial" "LColdaisle$Hall;") (by decide +kernel)) (fun _ h9 => h9) rfl dX2_greatestTemperature_69 ?_
      refine va_get (D := D) (ci := 0) (v := .ref (t 1)) (C := RX0) (T := TX0) (N := 7) hx hb hts hi_X0 hown hK hP 9 rfl rfl 0 (by decide) (hts (.fieldLink RX2 110 "Coldaisle$Hall" "temperature" "[I") (by decide +kernel)) (fun _ h9 => h9) rfl dX2_greatestTemperature_72 ?_
      refine lv_iload_n hx hb dX2_greatestTemperature_75 rfl (lv_at hl 1 rfl) ?_
      refine k_iald hx hb hK hP 10 0 rfl rfl (i := z0) (by omega) (by decide) dX2_greatestTemperature_76 ?_
      refine va_mmax hx hb (by rw [hml]; exact hl.1.symm) hown (hts (.methodLink RX2 132 Lib.Math.max.name) (by decide +kernel)) (hts (.static Lib.Math.max.name) (by decide +kernel)) (hts (.initialized "java/lang/Math") (by decide +kernel)) (hts (.code Lib.Math.max.name Lib.Math.max.code 2 (some .int)) (by decide +kernel)) (Nat.le_of_ble_eq_true rfl) (Nat.le_of_ble_eq_true rfl) (Nat.zero_le _) (Nat.zero_le _) (x := gTop (fun k => sT (hRun gp gi am Lo Se Ef dl (k + 1) (hFail σ f)) z0) z) (y := (sT (hRun gp gi am Lo Se Ef dl (z + 1 + 1) (hFail σ f))) z0) dX2_greatestTemperature_77 ?_
      refine k_as (y := mMax (gTop (fun k => sT (hRun gp gi am Lo Se Ef dl (k + 1) (hFail σ f)) z0) z) ((sT (hRun gp gi am Lo Se Ef dl (z + 1 + 1) (hFail σ f))) z0)) rfl ?_
      refine lv_istore (lv' := [(4, .int (mMax (gTop (fun k => sT (hRun gp gi am Lo Se Ef dl (k + 1) (hFail σ f)) z0) z) ((sT (hRun gp gi am Lo Se Ef dl (z + 1 + 1) (hFail σ f))) z0))), (0, .ref (x 0)), (1, .int (nI z0)), (2, .int (nI (m9 + 1))), (3, .int (nI f)), (5, .int (nI (z + 1)))]) hx hb dX2_greatestTemperature_80 hl (by decide) rfl (fun ls hl => ?_)
      refine lv_iinc (v := nI (z + 1 + 1)) (lv' := [(5, .int (nI (z + 1 + 1))), (4, .int (mMax (gTop (fun k => sT (hRun gp gi am Lo Se Ef dl (k + 1) (hFail σ f)) z0) z) ((sT (hRun gp gi am Lo Se Ef dl (z + 1 + 1) (hFail σ f))) z0))), (0, .ref (x 0)), (1, .int (nI z0)), (2, .int (nI (m9 + 1))), (3, .int (nI f))]) hx hb dX2_greatestTemperature_82 hl (k := 5) rfl (k_inc _) (by decide) rfl (fun ls hl => ?_)
      refine lv_goto (tgt := 49) hx hb dX2_greatestTemperature_85 (by decide) ?_
      exact ih (z + 1) (by omega) H locs hP hD hS ls (lv_sub hl [2, 3, 4, 5, 1, 0] rfl)
  exact lp m9 0 (by omega) H locs hP hD hS ls (lv_sub hl [2, 3, 4, 5, 1, 0] rfl)

abbrev rmX2_criticalFan : Room := { frames := 5, cells := 0, slots := 0, locals := 117 }
set_option maxHeartbeats 4000000 in
set_option maxRecDepth 100000 in
/-- criticalFan -/
theorem c_X2_criticalFan (l : Launch) (D : va_G) (cI cZ cO cJ : ClassId) (x a t b : Nat → Nat) (ck : Nat) (Ho : Nat → Int32) (σ : HS) (T1 E1 D1 F1 S1 : Nat → Int32) (C1 : Nat → Nat → Int32) (la1 : Nat) (Lo Se : Nat → Int32) (Ef : Nat → Nat → Int32) (gp gi am li : Int32) (dl : Nat) (z0 m9 : Nat) (sz : Nat) (hz0 : z0 < 6) (hm : m9 < 60) (h8 : sL σ < 9) (h9 : dl < 9) (hFb : ∀ f : Nat, f < 8 → sF σ f = nI 0 ∨ sF σ f = nI 1) : kME l yX2_criticalFan wsX2_criticalFan rmX2_criticalFan D (kT cI cZ cO cJ) [.ref (x 0), .int (nI z0), .int (nI (m9 + 1))] (wC cI cZ cO x a t b ck Ho (sT σ) (sE σ) (sD σ) (sF σ) (sS σ) (sC σ) (sL σ) T1 E1 D1 F1 S1 C1 la1 Lo Se Ef gp gi am li dl) (fun u : HS => wC cI cZ cO x a t b ck Ho (sT σ) (sE σ) (sD σ) (sF σ) (sS σ) (sC σ) (sL σ) (sT u) (sE u) (sD u) (sF u) (sS u) (sC u) (sL u) Lo Se Ef gp gi am li dl) sz ((crit (sF σ) (fun f => gOf gp gi am Lo Se Ef dl (hFail σ f) z0 m9) 8).1) := by
  refine kEnter (cc := cX2_criticalFan) (maxL := 7) (ret := some .int) (by decide +kernel) rfl (Nat.le_of_ble_eq_true rfl) ?_
  intro p e s m below meth c args hx hb hr hml hts hown hlocks hin hK hN A hA9 Q hQ9 hP hD hsz hS hA ls hl
  have hl : lv_has ls 7 [(0, .ref (x 0)), (1, .int (nI z0)), (2, .int (nI (m9 + 1)))] := hl
  have hi_X2 : ∀ w ∈ u_ws RX2 TX2 5, w ∈ wsX2_criticalFan := by decide +kernel
  have hi_X0 : ∀ w ∈ u_ws RX0 TX0 7, w ∈ wsX2_criticalFan := by decide +kernel
  obtain ⟨H, hH9⟩ : ∃ H, H = s.heap := ⟨_, rfl⟩
  rw [← hH9] at hP ⊢
  have hS : va_S A s.heap H [] := by rw [hH9]; exact va_S.rf
  refine lv_iconst (v := (-1)) hx hb dX2_criticalFan_0 (by decide +kernel) ?_
  refine lv_istore_n (lv' := [(3, .int (-1)), (0, .ref (x 0)), (1, .int (nI z0)), (2, .int (nI (m9 + 1)))]) hx hb dX2_criticalFan_1 rfl hl (by decide) rfl (fun ls hl => ?_)
  refine lv_iconst (v := nI 0) hx hb dX2_criticalFan_2 (by decide +kernel) ?_
  refine lv_istore (lv' := [(4, .int (nI 0)), (3, .int (-1)), (0, .ref (x 0)), (1, .int (nI z0)), (2, .int (nI (m9 + 1)))]) hx hb dX2_criticalFan_3 hl (by decide) rfl (fun ls hl => ?_)
  refine lv_iconst (v := nI 0) hx hb dX2_criticalFan_5 (by decide +kernel) ?_
  refine lv_istore (lv' := [(5, .int (nI 0)), (4, .int (nI 0)), (3, .int (-1)), (0, .ref (x 0)), (1, .int (nI z0)), (2, .int (nI (m9 + 1)))]) hx hb dX2_criticalFan_6 hl (by decide) rfl (fun ls hl => ?_)
  have lp : ∀ (n z : Nat), z + n = 8 → ∀ (T1 E1 D1 F1 S1 : Nat → Int32) (C1 : Nat → Nat → Int32) (la1 : Nat), ∀ (H : Heap) (locs : List Loc), va_P D vwCl (wC cI cZ cO x a t b ck Ho (sT σ) (sE σ) (sD σ) (sF σ) (sS σ) (sC σ) (sL σ) T1 E1 D1 F1 S1 C1 la1 Lo Se Ef gp gi am li dl) H → va_D A (wC cI cZ cO x a t b ck Ho (sT σ) (sE σ) (sD σ) (sF σ) (sS σ) (sC σ) (sL σ) T1 E1 D1 F1 S1 C1 la1 Lo Se Ef gp gi am li dl) → va_S A s.heap H locs → ∀ ls : Array Slot, lv_has ls 7 [(0, .ref (x 0)), (1, .int (nI z0)), (2, .int (nI (m9 + 1))), (3, .int ((crit (sF σ) (fun f => gOf gp gi am Lo Se Ef dl (hFail σ f) z0 m9) z).1)), (4, .int ((crit (sF σ) (fun f => gOf gp gi am Lo Se Ef dl (hFail σ f) z0 m9) z).2)), (5, .int (nI z))] → W p l e rmX2_criticalFan s m args below meth c H locs 0 0 Q (F0 m 8 ls []) := by
    intro n
    induction n with
    | zero =>
      intro z hz T1 E1 D1 F1 S1 C1 la1 H locs hP hD hS ls hl
      have hz9 : z = 8 := by omega
      subst hz9
      refine lv_iload hx hb dX2_criticalFan_8 (lv_at hl 5 rfl) ?_
      refine lv_bipush (v := nI 8) hx hb dX2_criticalFan_10 (by decide +kernel) ?_
      refine lv_icmp_ge (tgt := 63) hx hb dX2_criticalFan_12 (by decide) (fun _ => ?_) (fun c9 => absurd (nI_le (Nat.le_refl 8) (by decide)) c9)
      refine lv_iload_n hx hb dX2_criticalFan_63 rfl (lv_at hl 3 rfl) ?_
      subst hQ9
      subst hA9
      exact kRetE_i (S := HS) (W1 := fun u : HS => wC cI cZ cO x a t b ck Ho (sT σ) (sE σ) (sD σ) (sF σ) (sS σ) (sC σ) (sL σ) (sT u) (sE u) (sD u) (sF u) (sS u) (sC u) (sL u) Lo Se Ef gp gi am li dl) (T1, E1, D1, F1, S1, C1, la1) hx hb hr hlocks hP hS dX2_criticalFan_64 rfl
    | succ n ih =>
      intro z hz T1 E1 D1 F1 S1 C1 la1 H locs hP hD hS ls hl
      have hzb : z < 8 := by omega
      refine lv_iload hx hb dX2_criticalFan_8 (lv_at hl 5 rfl) ?_
      refine lv_bipush (v := nI 8) hx hb dX2_criticalFan_10 (by decide +kernel) ?_
      refine lv_icmp_ge (tgt := 63) hx hb dX2_criticalFan_12 (by decide) (fun c9 => absurd c9 (nI_ge hzb (by decide))) (fun _ => ?_)
      refine lv_aload_n hx hb dX2_criticalFan_15 rfl (lv_at hl 0 rfl) ?_
      refine va_get (D := D) (ci := 2) (v := .ref (a 0)) (C := RX2) (T := TX2) (N := 5) hx hb hts hi_X2 hown hK hP 0 rfl rfl 1 (by decide) (hts (.fieldLink RX2 19 "Coldaisle" "hall" "LColdaisle$Hall;") (by decide +kernel)) (fun _ h9 => h9) rfl dX2_criticalFan_16 ?_
      refine va_get (D := D) (ci := 0) (v := .ref (a 4)) (C := RX0) (T := TX0) (N := 7) hx hb hts hi_X0 hown hK hP 2 rfl rfl 3 (by decide) (hts (.fieldLink RX2 73 "Coldaisle$Hall" "failed" "[Z") (by decide +kernel)) (fun _ h9 => h9) rfl dX2_criticalFan_19 ?_
      refine lv_iload hx hb dX2_criticalFan_22 (lv_at hl 5 rfl) ?_
      refine k_zald hx hb hK hP 6 1 rfl rfl (i := z) (by omega) (by decide) dX2_criticalFan_24 ?_
      refine lv_if_ne (tgt := 57) hx hb dX2_criticalFan_25 (by decide) (fun c1 => ?_) (fun c1 => ?_)
      · refine lv_iinc (v := nI (z + 1)) (lv' := [(5, .int (nI (z + 1))), (0, .ref (x 0)), (1, .int (nI z0)), (2, .int (nI (m9 + 1))), (3, .int ((crit (sF σ) (fun f => gOf gp gi am Lo Se Ef dl (hFail σ f) z0 m9) z).1)), (4, .int ((crit (sF σ) (fun f => gOf gp gi am Lo Se Ef dl (hFail σ f) z0 m9) z).2))]) hx hb dX2_criticalFan_57 hl (k := 5) rfl (k_inc _) (by decide) rfl (fun ls hl => ?_)
        refine lv_goto (tgt := 8) hx hb dX2_criticalFan_60 (by decide) ?_
        exact ih (z + 1) (by omega) _ _ _ _ _ _ _ H locs hP hD hS ls (by rw [crit_a (sF σ) (fun f => gOf gp gi am Lo Se Ef dl (hFail σ f) z0 m9) z c1]; exact (lv_sub hl [1, 2, 3, 4, 5, 0] rfl))
      · refine lv_aload_n hx hb dX2_criticalFan_28 rfl (lv_at hl 0 rfl) ?_
        refine lv_iload_n hx hb dX2_criticalFan_29 rfl (lv_at hl 1 rfl) ?_
        refine lv_iload_n hx hb dX2_criticalFan_30 rfl (lv_at hl 2 rfl) ?_
        refine lv_iload hx hb dX2_criticalFan_31 (lv_at hl 5 rfl) ?_
        refine kCallW_i (W1 := wC cI cZ cO x a t b ck Ho (sT σ) (sE σ) (sD σ) (sF σ) (sS σ) (sC σ) (sL σ) (sT (hRun gp gi am Lo Se Ef dl (m9 + 1) (hFail σ z))) (sE (hRun gp gi am Lo Se Ef dl (m9 + 1) (hFail σ z))) (sD (hRun gp gi am Lo Se Ef dl (m9 + 1) (hFail σ z))) (sF (hRun gp gi am Lo Se Ef dl (m9 + 1) (hFail σ z))) (sS (hRun gp gi am Lo Se Ef dl (m9 + 1) (hFail σ z))) (sC (hRun gp gi am Lo Se Ef dl (m9 + 1) (hFail σ z))) (sL (hRun gp gi am Lo Se Ef dl (m9 + 1) (hFail σ z))) Lo Se Ef gp gi am li dl) hD hS hA rfl (va_runV (As := [.int (nI z0), .int (nI (m9 + 1)), .int (nI z)]) (rest := []) ⟨hx, hb, hml, hown, hts⟩ (c_X2_greatestTemperature_f l D cI cZ cO cJ x a t b ck Ho σ T1 E1 D1 F1 S1 C1 la1 Lo Se Ef gp gi am li dl z0 m9 z H.size (by omega) (by omega) (by omega) h8 h9 hFb) (cwV (rm := rmX2_greatestTemperature) 3 hts gX2_criticalFan_X2_greatestTemperature rfl rfl rfl (by decide +kernel) ⟨Nat.le_of_ble_eq_true rfl, Nat.le_of_ble_eq_true rfl⟩) (kPreVW hK hN hP hD (va_recv hK hP (ci := 2) (q0 := 0) rfl rfl)) rfl rfl hl.1 rfl (lv_room (Nat.le_of_ble_eq_true rfl)) dX2_criticalFan_33 ⟨Nat.zero_le _, Nat.zero_le _⟩) (fun H locs hP hD hS => ?_)
        refine lv_istore (lv' := [(6, .int (gOf gp gi am Lo Se Ef dl (hFail σ z) z0 m9)), (0, .ref (x 0)), (1, .int (nI z0)), (2, .int (nI (m9 + 1))), (3, .int ((crit (sF σ) (fun f => gOf gp gi am Lo Se Ef dl (hFail σ f) z0 m9) z).1)), (4, .int ((crit (sF σ) (fun f => gOf gp gi am Lo Se Ef dl (hFail σ f) z0 m9) z).2)), (5, .int (nI z))]) hx hb dX2_criticalFan_36 hl (by decide) rfl (fun ls hl => ?_)
        refine lv_iload_n hx hb dX2_criticalFan_38 rfl (lv_at hl 4 rfl) ?_
        refine lv_iconst (v := (-1)) hx hb dX2_criticalFan_39 (by decide +kernel) ?_
        refine lv_icmp_eq (tgt := 50) hx hb dX2_criticalFan_40 (by decide) (fun c2 => ?_) (fun c2 => ?_)
        · refine lv_iload hx hb dX2_criticalFan_50 (lv_at hl 6 rfl) ?_
          refine lv_istore_n (lv' := [(3, .int (nI z)), (6, .int (gOf gp gi am Lo Se Ef dl (hFail σ z) z0 m9)), (0, .ref (x 0)), (1, .int (nI z0)), (2, .int (nI (m9 + 1))), (4, .int ((crit (sF σ) (fun f => gOf gp gi am Lo Se Ef dl (hFail σ f) z0 m9) z).2)), (5, .int (nI z))]) hx hb dX2_criticalFan_52 rfl hl (by decide) rfl (fun ls hl => ?_)
          refine lv_iload hx hb dX2_criticalFan_53 (lv_at hl 1 rfl) ?_
          refine lv_istore (lv' := [(4, .int (gOf gp gi am Lo Se Ef dl (hFail σ z) z0 m9)), (3, .int (nI z)), (6, .int (gOf gp gi am Lo Se Ef dl (hFail σ z) z0 m9)), (0, .ref (x 0)), (1, .int (nI z0)), (2, .int (nI (m9 + 1))), (5, .int (nI z))]) hx hb dX2_criticalFan_55 hl (by decide) rfl (fun ls hl => ?_)
          refine lv_iinc (v := nI (z + 1)) (lv' := [(5, .int (nI (z + 1))), (4, .int (gOf gp gi am Lo Se Ef dl (hFail σ z) z0 m9)), (3, .int (nI z)), (6, .int (gOf gp gi am Lo Se Ef dl (hFail σ z) z0 m9)), (0, .ref (x 0)), (1, .int (nI z0)), (2, .int (nI (m9 + 1)))]) hx hb dX2_criticalFan_57 hl (k := 6) rfl (k_inc _) (by decide) rfl (fun ls hl => ?_)
          refine lv_goto (tgt := 8) hx hb dX2_criticalFan_60 (by decide) ?_
          exact ih (z + 1) (by omega) _ _ _ _ _ _ _ H locs hP hD hS ls (by rw [crit_b (sF σ) (fun f => gOf gp gi am Lo Se Ef dl (hFail σ f) z0 m9) z c1 c2]; exact (lv_sub hl [4, 5, 6, 2, 1, 0] rfl))
        · refine lv_iload hx hb dX2_criticalFan_43 (lv_at hl 0 rfl) ?_
          refine lv_iload hx hb dX2_criticalFan_45 (lv_at hl 5 rfl) ?_
          refine lv_icmp_le (tgt := 57) hx hb dX2_criticalFan_47 (by decide) (fun c3 => ?_) (fun c3 => ?_)
          · refine lv_iinc (v := nI (z + 1)) (lv' := [(5, .int (nI (z + 1))), (6, .int (gOf gp gi am Lo Se Ef dl (hFail σ z) z0 m9)), (0, .ref (x 0)), (1, .int (nI z0)), (2, .int (nI (m9 + 1))), (3, .int ((crit (sF σ) (fun f => gOf gp gi am Lo Se Ef dl (hFail σ f) z0 m9) z).1)), (4, .int ((crit (sF σ) (fun f => gOf gp gi am Lo Se Ef dl (hFail σ f) z0 m9) z).2))]) hx hb dX2_criticalFan_57 hl (k := 6) rfl (k_inc _) (by decide) rfl (fun ls hl => ?_)
            refine lv_goto (tgt := 8) hx hb dX2_criticalFan_60 (by decide) ?_
            exact ih (z + 1) (by omega) _ _ _ _ _ _ _ H locs hP hD hS ls (by rw [crit_c (sF σ) (fun f => gOf gp gi am Lo Se Ef dl (hFail σ f) z0 m9) z c1 c2 c3]; exact (lv_sub hl [2, 3, 4, 5, 6, 0] rfl))
          · refine lv_iload hx hb dX2_criticalFan_50 (lv_at hl 6 rfl) ?_
            refine lv_istore_n (lv' := [(3, .int (nI z)), (6, .int (gOf gp gi am Lo Se Ef dl (hFail σ z) z0 m9)), (0, .ref (x 0)), (1, .int (nI z0)), (2, .int (nI (m9 + 1))), (4, .int ((crit (sF σ) (fun f => gOf gp gi am Lo Se Ef dl (hFail σ f) z0 m9) z).2)), (5, .int (nI z))]) hx hb dX2_criticalFan_52 rfl hl (by decide) rfl (fun ls hl => ?_)
            refine lv_iload hx hb dX2_criticalFan_53 (lv_at hl 1 rfl) ?_
            refine lv_istore (lv' := [(4, .int (gOf gp gi am Lo Se Ef dl (hFail σ z) z0 m9)), (3, .int (nI z)), (6, .int (gOf gp gi am Lo Se Ef dl (hFail σ z) z0 m9)), (0, .ref (x 0)), (1, .int (nI z0)), (2, .int (nI (m9 + 1))), (5, .int (nI z))]) hx hb dX2_criticalFan_55 hl (by decide) rfl (fun ls hl => ?_)
            refine lv_iinc (v := nI (z + 1)) (lv' := [(5, .int (nI (z + 1))), (4, .int (gOf gp gi am Lo Se Ef dl (hFail σ z) z0 m9)), (3, .int (nI z)), (6, .int (gOf gp gi am Lo Se Ef dl (hFail σ z) z0 m9)), (0, .ref (x 0)), (1, .int (nI z0)), (2, .int (nI (m9 + 1)))]) hx hb dX2_criticalFan_57 hl (k := 6) rfl (k_inc _) (by decide) rfl (fun ls hl => ?_)
            refine lv_goto (tgt := 8) hx hb dX2_criticalFan_60 (by decide) ?_
            exact ih (z + 1) (by omega) _ _ _ _ _ _ _ H locs hP hD hS ls (by rw [crit_d (sF σ) (fun f => gOf gp gi am Lo Se Ef dl (hFail σ f) z0 m9) z c1 c2 c3]; exact (lv_sub hl [4, 5, 6, 2, 1, 0] rfl))
  exact lp 8 0 rfl _ _ _ _ _ _ _ H [] hP hD hS ls (lv_sub hl [3, 4, 5, 2, 1, 0] rfl)

abbrev rmX2_expected : Room := { frames := 5, cells := 0, slots := 0, locals := 117 }
set_option maxHeartbeats 4000000 in
set_option maxRecDepth 100000 in
/-- expected -/
theorem c_X2_expected (l : Launch) (D : va_G) (cI cZ cO cJ : ClassId) (x a t b : Nat → Nat) (ck : Nat) (Ho : Nat → Int32) (σ : HS) (T1 E1 D1 F1 S1 : Nat → Int32) (C1 : Nat → Nat → Int32) (la1 : Nat) (Lo Se : Nat → Int32) (Ef : Nat → Nat → Int32) (gp gi am li : Int32) (dl : Nat) (z0 m9 : Nat) (sz : Nat) (hz0 : z0 < 6) (hm : m9 < 60) (h8 : sL σ < 9) (h9 : dl < 9) (hFb : ∀ f : Nat, f < 8 → sF σ f = nI 0 ∨ sF σ f = nI 1) : kME l yX2_expected wsX2_expected rmX2_expected D (kT cI cZ cO cJ) [.ref (x 0), .int (nI z0), .int (nI (m9 + 1))] (wC cI cZ cO x a t b ck Ho (sT σ) (sE σ) (sD σ) (sF σ) (sS σ) (sC σ) (sL σ) T1 E1 D1 F1 S1 C1 la1 Lo Se Ef gp gi am li dl) (fun u : HS => wC cI cZ cO x a t b ck Ho (sT σ) (sE σ) (sD σ) (sF σ) (sS σ) (sC σ) (sL σ) (sT u) (sE u) (sD u) (sF u) (sS u) (sC u) (sL u) Lo Se Ef gp gi am li dl) sz (gOf gp gi am Lo Se Ef dl σ z0 m9) := by
  refine kEnter (cc := cX2_expected) (maxL := 3) (ret := some .int) (by decide +kernel) rfl (Nat.le_of_ble_eq_true rfl) ?_
  intro p e s m below meth c args hx hb hr hml hts hown hlocks hin hK hN A hA9 Q hQ9 hP hD hsz hS hA ls hl
  have hl : lv_has ls 3 [(0, .ref (x 0)), (1, .int (nI z0)), (2, .int (nI (m9 + 1)))] := hl
  have hi_X2 : ∀ w ∈ u_ws RX2 TX2 5, w ∈ wsX2_expected := by decide +kernel
  obtain ⟨H, hH9⟩ : ∃ H, H = s.heap := ⟨_, rfl⟩
  rw [← hH9] at hP ⊢
  have hS : va_S A s.heap H [] := by rw [hH9]; exact va_S.rf
  refine lv_iload_n hx hb dX2_expected_0 rfl (lv_at hl 1 rfl) ?_
  refine lv_iload_n hx hb dX2_expected_1 rfl (lv_at hl 2 rfl) ?_
  refine kCall_v (W0 := []) (W1 := []) hP hD hS hA [] rfl rfl (va_runS (As := [.int (nI z0), .int (nI (m9 + 1))]) (rest := []) ⟨hx, hb, hml, hown, hts⟩ (c_X2_requireForecast l D cI cZ cO cJ (nI z0) (nI (m9 + 1)) H.size (nI_nlt (by omega) (by omega)) (nI_le (by omega) (by decide)) (nI_nlt (by omega) (by omega)) (nI_le (by omega) (by decide))) (va_cwS (rm := rmX2_requireForecast) 2 hts gX2_expected_X2_requireForecast rfl rfl rfl (by decide +kernel) ⟨Nat.le_of_ble_eq_true rfl, Nat.le_of_ble_eq_true rfl⟩) (kPreS hK hN hP hD [] rfl rfl) rfl rfl hl.1 rfl (lv_room (Nat.le_of_ble_eq_true rfl)) dX2_expected_2 ⟨Nat.zero_le _, Nat.zero_le _⟩) (fun H locs hP hD hS => ?_)
  have hP : va_P D vwCl (wC cI cZ cO x a t b ck Ho (sT σ) (sE σ) (sD σ) (sF σ) (sS σ) (sC σ) (sL σ) T1 E1 D1 F1 S1 C1 la1 Lo Se Ef gp gi am li dl) H := hP
  have hD : va_D A (wC cI cZ cO x a t b ck Ho (sT σ) (sE σ) (sD σ) (sF σ) (sS σ) (sC σ) (sL σ) T1 E1 D1 F1 S1 C1 la1 Lo Se Ef gp gi am li dl) := hD
  refine lv_aload_n hx hb dX2_expected_5 rfl (lv_at hl 0 rfl) ?_
  refine lv_iload_n hx hb dX2_expected_6 rfl (lv_at hl 1 rfl) ?_
  refine lv_iload_n hx hb dX2_expected_7 rfl (lv_at hl 2 rfl) ?_
  refine lv_iconst (v := (-1)) hx hb dX2_expected_8 (by decide +kernel) ?_
  refine kCallW_i (W1 := wC cI cZ cO x a t b ck Ho (sT σ) (sE σ) (sD σ) (sF σ) (sS σ) (sC σ) (sL σ) (sT (hRun gp gi am Lo Se Ef dl (m9 + 1) σ)) (sE (hRun gp gi am Lo Se Ef dl (m9 + 1) σ)) (sD (hRun gp gi am Lo Se Ef dl (m9 + 1) σ)) (sF (hRun gp gi am Lo Se Ef dl (m9 + 1) σ)) (sS (hRun gp gi am Lo Se Ef dl (m9 + 1) σ)) (sC (hRun gp gi am Lo Se Ef dl (m9 + 1) σ)) (sL (hRun gp gi am Lo Se Ef dl (m9 + 1) σ)) Lo Se Ef gp gi am li dl) hD hS hA rfl (va_runV (As := [.int (nI z0), .int (nI (m9 + 1)), .int (-1)]) (rest := []) ⟨hx, hb, hml, hown, hts⟩ (c_X2_greatestTemperature_n l D cI cZ cO cJ x a t b ck Ho σ T1 E1 D1 F1 S1 C1 la1 Lo Se Ef gp gi am li dl z0 m9 H.size (by omega) (by omega) h8 h9 hFb) (cwV (rm := rmX2_greatestTemperature) 3 hts gX2_expected_X2_greatestTemperature rfl rfl rfl (by decide +kernel) ⟨Nat.le_of_ble_eq_true rfl, Nat.le_of_ble_eq_true rfl⟩) (kPreVW hK hN hP hD (va_recv hK hP (ci := 2) (q0 := 0) rfl rfl)) rfl rfl hl.1 rfl (lv_room (Nat.le_of_ble_eq_true rfl)) dX2_expected_9 ⟨Nat.zero_le _, Nat.zero_le _⟩) (fun H locs hP hD hS => ?_)
  subst hQ9
  subst hA9
  exact kRetE_i (S := HS) (W1 := fun u : HS => wC cI cZ cO x a t b ck Ho (sT σ) (sE σ) (sD σ) (sF σ) (sS σ) (sC σ) (sL σ) (sT u) (sE u) (sD u) (sF u) (sS u) (sC u) (sL u) Lo Se Ef gp gi am li dl) (sT (hRun gp gi am Lo Se Ef dl (m9 + 1) σ), sE (hRun gp gi am Lo Se Ef dl (m9 + 1) σ), sD (hRun gp gi am Lo Se Ef dl (m9 + 1) σ), sF (hRun gp gi am Lo Se Ef dl (m9 + 1) σ), sS (hRun gp gi am Lo Se Ef dl (m9 + 1) σ), sC (hRun gp gi am Lo Se Ef dl (m9 + 1) σ), sL (hRun gp gi am Lo Se Ef dl (m9 + 1) σ)) hx hb hr hlocks hP hS dX2_expected_12 rfl

abbrev rmX2_critical : Room := { frames := 6, cells := 0, slots := 0, locals := 143 }
set_option maxHeartbeats 4000000 in
set_option maxRecDepth 100000 in
/-- critical -/
theorem c_X2_critical (l : Launch) (D : va_G) (cI cZ cO cJ : ClassId) (x a t b : Nat → Nat) (ck : Nat) (Ho : Nat → Int32) (σ : HS) (T1 E1 D1 F1 S1 : Nat → Int32) (C1 : Nat → Nat → Int32) (la1 : Nat) (Lo Se : Nat → Int32) (Ef : Nat → Nat → Int32) (gp gi am li : Int32) (dl : Nat) (z0 m9 : Nat) (sz : Nat) (hz0 : z0 < 6) (hm : m9 < 60) (h8 : sL σ < 9) (h9 : dl < 9) (hFb : ∀ f : Nat, f < 8 → sF σ f = nI 0 ∨ sF σ f = nI 1) : kME l yX2_critical wsX2_critical rmX2_critical D (kT cI cZ cO cJ) [.ref (x 0), .int (nI z0), .int (nI (m9 + 1))] (wC cI cZ cO x a t b ck Ho (sT σ) (sE σ) (sD σ) (sF σ) (sS σ) (sC σ) (sL σ) T1 E1 D1 F1 S1 C1 la1 Lo Se Ef gp gi am li dl) (fun u : HS => wC cI cZ cO x a t b ck Ho (sT σ) (sE σ) (sD σ) (sF σ) (sS σ) (sC σ) (sL σ) (sT u) (sE u) (sD u) (sF u) (sS u) (sC u) (sL u) Lo Se Ef gp gi am li dl) sz ((crit (sF σ) (fun f => gOf gp gi am Lo Se Ef dl (hFail σ f) z0 m9) 8).1) := by
  refine kEnter (cc := cX2_critical) (maxL := 3) (ret := some .int) (by decide +kernel) rfl (Nat.le_of_ble_eq_true rfl) ?_
  intro p e s m below meth c args hx hb hr hml hts hown hlocks hin hK hN A hA9 Q hQ9 hP hD hsz hS hA ls hl
  have hl : lv_has ls 3 [(0, .ref (x 0)), (1, .int (nI z0)), (2, .int (nI (m9 + 1)))] := hl
  have hi_X2 : ∀ w ∈ u_ws RX2 TX2 5, w ∈ wsX2_critical := by decide +kernel
  obtain ⟨H, hH9⟩ : ∃ H, H = s.heap := ⟨_, rfl⟩
  rw [← hH9] at hP ⊢
  have hS : va_S A s.heap H [] := by rw [hH9]; exact va_S.rf
  refine lv_iload_n hx hb dX2_critical_0 rfl (lv_at hl 1 rfl) ?_
  refine lv_iload_n hx hb dX2_critical_1 rfl (lv_at hl 2 rfl) ?_
  refine kCall_v (W0 := []) (W1 := []) hP hD hS hA [] rfl rfl (va_runS (As := [.int (nI z0), .int (nI (m9 + 1))]) (rest := []) ⟨hx, hb, hml, hown, hts⟩ (c_X2_requireForecast l D cI cZ cO cJ (nI z0) (nI (m9 + 1)) H.size (nI_nlt (by omega) (by omega)) (nI_le (by omega) (by decide)) (nI_nlt (by omega) (by omega)) (nI_le (by omega) (by decide))) (va_cwS (rm := rmX2_requireForecast) 2 hts gX2_critical_X2_requireForecast rfl rfl rfl (by decide +kernel) ⟨Nat.le_of_ble_eq_true rfl, Nat.le_of_ble_eq_true rfl⟩) (kPreS hK hN hP hD [] rfl rfl) rfl rfl hl.1 rfl (lv_room (Nat.le_of_ble_eq_true rfl)) dX2_critical_2 ⟨Nat.zero_le _, Nat.zero_le _⟩) (fun H locs hP hD hS => ?_)
  have hP : va_P D vwCl (wC cI cZ cO x a t b ck Ho (sT σ) (sE σ) (sD σ) (sF σ) (sS σ) (sC σ) (sL σ) T1 E1 D1 F1 S1 C1 la1 Lo Se Ef gp gi am li dl) H := hP
  have hD : va_D A (wC cI cZ cO x a t b ck Ho (sT σ) (sE σ) (sD σ) (sF σ) (sS σ) (sC σ) (sL σ) T1 E1 D1 F1 S1 C1 la1 Lo Se Ef gp gi am li dl) := hD
  refine lv_aload_n hx hb dX2_critical_5 rfl (lv_at hl 0 rfl) ?_
  refine lv_iload_n hx hb dX2_critical_6 rfl (lv_at hl 1 rfl) ?_
  refine lv_iload_n hx hb dX2_critical_7 rfl (lv_at hl 2 rfl) ?_
  refine kCallWE_i (S := HS) (W1 := fun u : HS => wC cI cZ cO x a t b ck Ho (sT σ) (sE σ) (sD σ) (sF σ) (sS σ) (sC σ) (sL σ) (sT u) (sE u) (sD u) (sF u) (sS u) (sC u) (sL u) Lo Se Ef gp gi am li dl) hD hS hA (fun _ => rfl) (va_runV (As := [.int (nI z0), .int (nI (m9 + 1))]) (rest := []) ⟨hx, hb, hml, hown, hts⟩ (c_X2_criticalFan l D cI cZ cO cJ x a t b ck Ho σ T1 E1 D1 F1 S1 C1 la1 Lo Se Ef gp gi am li dl z0 m9 H.size (by omega) (by omega) h8 h9 hFb) (cwV (rm := rmX2_criticalFan) 2 hts gX2_critical_X2_criticalFan rfl rfl rfl (by decide +kernel) ⟨Nat.le_of_ble_eq_true rfl, Nat.le_of_ble_eq_true rfl⟩) (kPreVW hK hN hP hD (va_recv hK hP (ci := 2) (q0 := 0) rfl rfl)) rfl rfl hl.1 rfl (lv_room (Nat.le_of_ble_eq_true rfl)) dX2_critical_8 ⟨Nat.zero_le _, Nat.zero_le _⟩) (fun u H locs hP hD hS => ?_)
  subst hQ9
  subst hA9
  exact kRetE_i (S := HS) (W1 := fun u : HS => wC cI cZ cO x a t b ck Ho (sT σ) (sE σ) (sD σ) (sF σ) (sS σ) (sC σ) (sL σ) (sT u) (sE u) (sD u) (sF u) (sS u) (sC u) (sL u) Lo Se Ef gp gi am li dl) (sT u, sE u, sD u, sF u, sS u, sC u, sL u) hx hb hr hlocks hP hS dX2_critical_11 rfl

abbrev rmX2_margin : Room := { frames := 6, cells := 0, slots := 0, locals := 143 }
set_option maxHeartbeats 4000000 in
set_option maxRecDepth 100000 in
/-- margin -/
theorem c_X2_margin (l : Launch) (D : va_G) (cI cZ cO cJ : ClassId) (x a t b : Nat → Nat) (ck : Nat) (Ho : Nat → Int32) (σ : HS) (T1 E1 D1 F1 S1 : Nat → Int32) (C1 : Nat → Nat → Int32) (la1 : Nat) (Lo Se : Nat → Int32) (Ef : Nat → Nat → Int32) (gp gi am li : Int32) (dl : Nat) (z0 m9 : Nat) (sz : Nat) (hz0 : z0 < 6) (hm : m9 < 60) (h8 : sL σ < 9) (h9 : dl < 9) (hFb : ∀ f : Nat, f < 8 → sF σ f = nI 0 ∨ sF σ f = nI 1) : kME l yX2_margin wsX2_margin rmX2_margin D (kT cI cZ cO cJ) [.ref (x 0), .int (nI z0), .int (nI (m9 + 1))] (wC cI cZ cO x a t b ck Ho (sT σ) (sE σ) (sD σ) (sF σ) (sS σ) (sC σ) (sL σ) T1 E1 D1 F1 S1 C1 la1 Lo Se Ef gp gi am li dl) (fun u : HS => wC cI cZ cO x a t b ck Ho (sT σ) (sE σ) (sD σ) (sF σ) (sS σ) (sC σ) (sL σ) (sT u) (sE u) (sD u) (sF u) (sS u) (sC u) (sL u) Lo Se Ef gp gi am li dl) sz (li - gAny gp gi am Lo Se Ef dl σ z0 m9 (crit (sF σ) (fun f => gOf gp gi am Lo Se Ef dl (hFail σ f) z0 m9) 8).1) := by
  refine kEnter (cc := cX2_margin) (maxL := 4) (ret := some .int) (by decide +kernel) rfl (Nat.le_of_ble_eq_true rfl) ?_
  intro p e s m below meth c args hx hb hr hml hts hown hlocks hin hK hN A hA9 Q hQ9 hP hD hsz hS hA ls hl
  have hl : lv_has ls 4 [(0, .ref (x 0)), (1, .int (nI z0)), (2, .int (nI (m9 + 1)))] := hl
  have hi_X2 : ∀ w ∈ u_ws RX2 TX2 5, w ∈ wsX2_margin := by decide +kernel
  have hi_X1 : ∀ w ∈ u_ws RX1 TX1 8, w ∈ wsX2_margin := by decide +kernel
  obtain ⟨H, hH9⟩ : ∃ H, H = s.heap := ⟨_, rfl⟩
  rw [← hH9] at hP ⊢
  have hS : va_S A s.heap H [] := by rw [hH9]; exact va_S.rf
  refine lv_iload_n hx hb dX2_margin_0 rfl (lv_at hl 1 rfl) ?_
  refine lv_iload_n hx hb dX2_margin_1 rfl (lv_at hl 2 rfl) ?_
  refine kCall_v (W0 := []) (W1 := []) hP hD hS hA [] rfl rfl (va_runS (As := [.int (nI z0), .int (nI (m9 + 1))]) (rest := []) ⟨hx, hb, hml, hown, hts⟩ (c_X2_requireForecast l D cI cZ cO cJ (nI z0) (nI (m9 + 1)) H.size (nI_nlt (by omega) (by omega)) (nI_le (by omega) (by decide)) (nI_nlt (by omega) (by omega)) (nI_le (by omega) (by decide))) (va_cwS (rm := rmX2_requireForecast) 2 hts gX2_margin_X2_requireForecast rfl rfl rfl (by decide +kernel) ⟨Nat.le_of_ble_eq_true rfl, Nat.le_of_ble_eq_true rfl⟩) (kPreS hK hN hP hD [] rfl rfl) rfl rfl hl.1 rfl (lv_room (Nat.le_of_ble_eq_true rfl)) dX2_margin_2 ⟨Nat.zero_le _, Nat.zero_le _⟩) (fun H locs hP hD hS => ?_)
  have hP : va_P D vwCl (wC cI cZ cO x a t b ck Ho (sT σ) (sE σ) (sD σ) (sF σ) (sS σ) (sC σ) (sL σ) T1 E1 D1 F1 S1 C1 la1 Lo Se Ef gp gi am li dl) H := hP
  have hD : va_D A (wC cI cZ cO x a t b ck Ho (sT σ) (sE σ) (sD σ) (sF σ) (sS σ) (sC σ) (sL σ) T1 E1 D1 F1 S1 C1 la1 Lo Se Ef gp gi am li dl) := hD
  refine lv_aload_n hx hb dX2_margin_5 rfl (lv_at hl 0 rfl) ?_
  refine lv_iload_n hx hb dX2_margin_6 rfl (lv_at hl 1 rfl) ?_
  refine lv_iload_n hx hb dX2_margin_7 rfl (lv_at hl 2 rfl) ?_
  refine kCallWE_i (S := HS) (W1 := fun u : HS => wC cI cZ cO x a t b ck Ho (sT σ) (sE σ) (sD σ) (sF σ) (sS σ) (sC σ) (sL σ) (sT u) (sE u) (sD u) (sF u) (sS u) (sC u) (sL u) Lo Se Ef gp gi am li dl) hD hS hA (fun _ => rfl) (va_runV (As := [.int (nI z0), .int (nI (m9 + 1))]) (rest := []) ⟨hx, hb, hml, hown, hts⟩ (c_X2_criticalFan l D cI cZ cO cJ x a t b ck Ho σ T1 E1 D1 F1 S1 C1 la1 Lo Se Ef gp gi am li dl z0 m9 H.size (by omega) (by omega) h8 h9 hFb) (cwV (rm := rmX2_criticalFan) 2 hts gX2_margin_X2_criticalFan rfl rfl rfl (by decide +kernel) ⟨Nat.le_of_ble_eq_true rfl, Nat.le_of_ble_eq_true rfl⟩) (kPreVW hK hN hP hD (va_recv hK hP (ci := 2) (q0 := 0) rfl rfl)) rfl rfl hl.1 rfl (lv_room (Nat.le_of_ble_eq_true rfl)) dX2_margin_8 ⟨Nat.zero_le _, Nat.zero_le _⟩) (fun u H locs hP hD hS => ?_)
  refine lv_istore_n (lv' := [(3, .int ((crit (sF σ) (fun f => gOf gp gi am Lo Se Ef dl (hFail σ f) z0 m9) 8).1)), (0, .ref (x 0)), (1, .int (nI z0)), (2, .int (nI (m9 + 1)))]) hx hb dX2_margin_11 rfl hl (by decide) rfl (fun ls hl => ?_)
  refine lv_aload_n hx hb dX2_margin_12 rfl (lv_at hl 1 rfl) ?_
  refine va_get (D := D) (ci := 2) (v := .ref (b 0)) (C := RX2) (T := TX2) (N := 5) hx hb hts hi_X2 hown hK hP 0 rfl rfl 0 (by decide) (hts (.fieldLink RX2 10 "Coldaisle" "settings" "LColdaisle$Settings;") (by decide +kernel)) (fun _ h9 => h9) rfl dX2_margin_13 ?_
  refine va_get (D := D) (ci := 1) (v := .int li) (C := RX1) (T := TX1) (N := 8) hx hb hts hi_X1 hown hK hP 16 rfl rfl 6 (by decide) (hts (.fieldLink RX2 67 "Coldaisle$Settings" "limit" "I") (by decide +kernel)) (fun _ h9 => h9) rfl dX2_margin_16 ?_
  refine lv_aload_n hx hb dX2_margin_19 rfl (lv_at hl 1 rfl) ?_
  refine lv_iload_n hx hb dX2_margin_20 rfl (lv_at hl 2 rfl) ?_
  refine lv_iload_n hx hb dX2_margin_21 rfl (lv_at hl 3 rfl) ?_
  refine lv_iload_n hx hb dX2_margin_22 rfl (lv_at hl 0 rfl) ?_
  rcases crit_or (sF σ) (fun f => gOf gp gi am Lo Se Ef dl (hFail σ f) z0 m9) 8 with hc9 | ⟨f, hf, hc9⟩
  · rw [hc9] at hl ⊢
    refine kCallW_i (W1 := wC cI cZ cO x a t b ck Ho (sT σ) (sE σ) (sD σ) (sF σ) (sS σ) (sC σ) (sL σ) (sT (hRun gp gi am Lo Se Ef dl (m9 + 1) σ)) (sE (hRun gp gi am Lo Se Ef dl (m9 + 1) σ)) (sD (hRun gp gi am Lo Se Ef dl (m9 + 1) σ)) (sF (hRun gp gi am Lo Se Ef dl (m9 + 1) σ)) (sS (hRun gp gi am Lo Se Ef dl (m9 + 1) σ)) (sC (hRun gp gi am Lo Se Ef dl (m9 + 1) σ)) (sL (hRun gp gi am Lo Se Ef dl (m9 + 1) σ)) Lo Se Ef gp gi am li dl) hD hS hA rfl (va_runV (As := [.int (nI z0), .int (nI (m9 + 1)), .int (-1)]) (rest := [.int li]) ⟨hx, hb, hml, hown, hts⟩ (c_X2_greatestTemperature_n l D cI cZ cO cJ x a t b ck Ho σ (sT u) (sE u) (sD u) (sF u) (sS u) (sC u) (sL u) Lo Se Ef gp gi am li dl z0 m9 H.size (by omega) (by omega) h8 h9 hFb) (cwV (rm := rmX2_greatestTemperature) 3 hts gX2_margin_X2_greatestTemperature rfl rfl rfl (by decide +kernel) ⟨Nat.le_of_ble_eq_true rfl, Nat.le_of_ble_eq_true rfl⟩) (kPreVW hK hN hP hD (va_recv hK hP (ci := 2) (q0 := 0) rfl rfl)) rfl rfl hl.1 rfl (lv_room (Nat.le_of_ble_eq_true rfl)) dX2_margin_23 ⟨Nat.zero_le _, Nat.zero_le _⟩) (fun H locs hP hD hS => ?_)
    refine lv_isub hx hb dX2_margin_26 ?_
    subst hQ9
    subst hA9
    exact kRetE_i (S := HS) (W1 := fun u : HS => wC cI cZ cO x a t b ck Ho (sT σ) (sE σ) (sD σ) (sF σ) (sS σ) (sC σ) (sL σ) (sT u) (sE u) (sD u) (sF u) (sS u) (sC u) (sL u) Lo Se Ef gp gi am li dl) (sT (hRun gp gi am Lo Se Ef dl (m9 + 1) σ), sE (hRun gp gi am Lo Se Ef dl (m9 + 1) σ), sD (hRun gp gi am Lo Se Ef dl (m9 + 1) σ), sF (hRun gp gi am Lo Se Ef dl (m9 + 1) σ), sS (hRun gp gi am Lo Se Ef dl (m9 + 1) σ), sC (hRun gp gi am Lo Se Ef dl (m9 + 1) σ), sL (hRun gp gi am Lo Se Ef dl (m9 + 1) σ)) hx hb hr hlocks hP hS dX2_margin_27 (congrArg (fun y => li - y) (Eq.symm (by rw [hc9]; exact if_pos rfl)))
  · rw [hc9] at hl ⊢
    refine kCallW_i (W1 := wC cI cZ cO x a t b ck Ho (sT σ) (sE σ) (sD σ) (sF σ) (sS σ) (sC σ) (sL σ) (sT (hRun gp gi am Lo Se Ef dl (m9 + 1) (hFail σ f))) (sE (hRun gp gi am Lo Se Ef dl (m9 + 1) (hFail σ f))) (sD (hRun gp gi am Lo Se Ef dl (m9 + 1) (hFail σ f))) (sF (hRun gp gi am Lo Se Ef dl (m9 + 1) (hFail σ f))) (sS (hRun gp gi am Lo Se Ef dl (m9 + 1) (hFail σ f))) (sC (hRun gp gi am Lo Se Ef dl (m9 + 1) (hFail σ f))) (sL (hRun gp gi am Lo Se Ef dl (m9 + 1) (hFail σ f))) Lo Se Ef gp gi am li dl) hD hS hA rfl (va_runV (As := [.int (nI z0), .int (nI (m9 + 1)), .int (nI f)]) (rest := [.int li]) ⟨hx, hb, hml, hown, hts⟩ (c_X2_greatestTemperature_f l D cI cZ cO cJ x a t b ck Ho σ (sT u) (sE u) (sD u) (sF u) (sS u) (sC u) (sL u) Lo Se Ef gp gi am li dl z0 m9 f H.size (by omega) (by omega) (by omega) h8 h9 hFb) (cwV (rm := rmX2_greatestTemperature) 3 hts gX2_margin_X2_greatestTemperature rfl rfl rfl (by decide +kernel) ⟨Nat.le_of_ble_eq_true rfl, Nat.le_of_ble_eq_true rfl⟩) (kPreVW hK hN hP hD (va_recv hK hP (ci := 2) (q0 := 0) rfl rfl)) rfl rfl hl.1 rfl (lv_room (Nat.le_of_ble_eq_true rfl)) dX2_margin_23 ⟨Nat.zero_le _, Nat.zero_le _⟩) (fun H locs hP hD hS => ?_)
    refine lv_isub hx hb dX2_margin_26 ?_
    subst hQ9
    subst hA9
    exact kRetE_i (S := HS) (W1 := fun u : HS => wC cI cZ cO x a t b ck Ho (sT σ) (sE σ) (sD σ) (sF σ) (sS σ) (sC σ) (sL σ) (sT u) (sE u) (sD u) (sF u) (sS u) (sC u) (sL u) Lo Se Ef gp gi am li dl) (sT (hRun gp gi am Lo Se Ef dl (m9 + 1) (hFail σ f)), sE (hRun gp gi am Lo Se Ef dl (m9 + 1) (hFail σ f)), sD (hRun gp gi am Lo Se Ef dl (m9 + 1) (hFail σ f)), sF (hRun gp gi am Lo Se Ef dl (m9 + 1) (hFail σ f)), sS (hRun gp gi am Lo Se Ef dl (m9 + 1) (hFail σ f)), sC (hRun gp gi am Lo Se Ef dl (m9 + 1) (hFail σ f)), sL (hRun gp gi am Lo Se Ef dl (m9 + 1) (hFail σ f))) hx hb hr hlocks hP hS dX2_margin_27 (congrArg (fun y => li - y) (Eq.symm (by rw [hc9]; exact gAny_f (by omega))))
end
section
theorem dX3_init_0 : decode cX3_init 0 = .ok (.aload_n 0, 1) := by decide +kernel
theorem dX3_init_1 : decode cX3_init 1 = .ok (.invokespecial 1, 3) := by decide +kernel
theorem dX3_init_4 : decode cX3_init 4 = .ok (.aload_n 0, 1) := by decide +kernel
theorem dX3_init_5 : decode cX3_init 5 = .ok (.bipush 6, 2) := by decide +kernel
theorem dX3_init_7 : decode cX3_init 7 = .ok (.newarray .int, 2) := by decide +kernel
theorem dX3_init_9 : decode cX3_init 9 = .ok (.putfield 7, 3) := by decide +kernel
theorem dX3_init_12 : decode cX3_init 12 = .ok (.aload_n 0, 1) := by decide +kernel
theorem dX3_init_13 : decode cX3_init 13 = .ok (.bipush 6, 2) := by decide +kernel
theorem dX3_init_15 : decode cX3_init 15 = .ok (.newarray .int, 2) := by decide +kernel
theorem dX3_init_17 : decode cX3_init 17 = .ok (.putfield 13, 3) := by decide +kernel
theorem dX3_init_20 : decode cX3_init 20 = .ok (.aload_n 0, 1) := by decide +kernel
theorem dX3_init_21 : decode cX3_init 21 = .ok (.bipush 48, 2) := by decide +kernel
theorem dX3_init_23 : decode cX3_init 23 = .ok (.newarray .int, 2) := by decide +kernel
theorem dX3_init_25 : decode cX3_init 25 = .ok (.putfield 16, 3) := by decide +kernel
theorem dX3_init_28 : decode cX3_init 28 = .ok (.aload_n 0, 1) := by decide +kernel
theorem dX3_init_29 : decode cX3_init 29 = .ok (.bipush 20, 2) := by decide +kernel
theorem dX3_init_31 : decode cX3_init 31 = .ok (.putfield 19, 3) := by decide +kernel
theorem dX3_init_34 : decode cX3_init 34 = .ok (.aload_n 0, 1) := by decide +kernel
theorem dX3_init_35 : decode cX3_init 35 = .ok (.bipush 10, 2) := by decide +kernel
theorem dX3_init_37 : decode cX3_init 37 = .ok (.putfield 23, 3) := by decide +kernel
theorem dX3_init_40 : decode cX3_init 40 = .ok (.aload_n 0, 1) := by decide +kernel
theorem dX3_init_41 : decode cX3_init 41 = .ok (.sipush 2500, 3) := by decide +kernel
theorem dX3_init_44 : decode cX3_init 44 = .ok (.putfield 26, 3) := by decide +kernel
theorem dX3_init_47 : decode cX3_init 47 = .ok (.aload_n 0, 1) := by decide +kernel
theorem dX3_init_48 : decode cX3_init 48 = .ok (.sipush 2700, 3) := by decide +kernel
theorem dX3_init_51 : decode cX3_init 51 = .ok (.putfield 29, 3) := by decide +kernel
theorem dX3_init_54 : decode cX3_init 54 = .ok (.aload_n 0, 1) := by decide +kernel
theorem dX3_init_55 : decode cX3_init 55 = .ok (.iconst 2, 1) := by decide +kernel
theorem dX3_init_56 : decode cX3_init 56 = .ok (.putfield 32, 3) := by decide +kernel
theorem dX3_init_59 : decode cX3_init 59 = .ok (.aload_n 0, 1) := by decide +kernel
theorem dX3_init_60 : decode cX3_init 60 = .ok (.iconst 2, 1) := by decide +kernel
theorem dX3_init_61 : decode cX3_init 61 = .ok (.newarray .int, 2) := by decide +kernel
theorem dX3_init_63 : decode cX3_init 63 = .ok (.putfield 35, 3) := by decide +kernel
theorem dX3_init_66 : decode cX3_init 66 = .ok (.aload_n 0, 1) := by decide +kernel
theorem dX3_init_67 : decode cX3_init 67 = .ok (.bipush 12, 2) := by decide +kernel
theorem dX3_init_69 : decode cX3_init 69 = .ok (.newarray .int, 2) := by decide +kernel
theorem dX3_init_71 : decode cX3_init 71 = .ok (.putfield 38, 3) := by decide +kernel
theorem dX3_init_74 : decode cX3_init 74 = .ok (.aload_n 0, 1) := by decide +kernel
theorem dX3_init_75 : decode cX3_init 75 = .ok (.bipush 12, 2) := by decide +kernel
theorem dX3_init_77 : decode cX3_init 77 = .ok (.newarray .int, 2) := by decide +kernel
theorem dX3_init_79 : decode cX3_init 79 = .ok (.putfield 41, 3) := by decide +kernel
theorem dX3_init_82 : decode cX3_init 82 = .ok (.aload_n 0, 1) := by decide +kernel
theorem dX3_init_83 : decode cX3_init 83 = .ok (.bipush 12, 2) := by decide +kernel
theorem dX3_init_85 : decode cX3_init 85 = .ok (.newarray .int, 2) := by decide +kernel
theorem dX3_init_87 : decode cX3_init 87 = .ok (.putfield 44, 3) := by decide +kernel
theorem dX3_init_90 : decode cX3_init 90 = .ok (.aload_n 0, 1) := by decide +kernel
theorem dX3_init_91 : decode cX3_init 91 = .ok (.bipush 16, 2) := by decide +kernel
theorem dX3_init_93 : decode cX3_init 93 = .ok (.newarray .boolean, 2) := by decide +kernel
theorem dX3_init_95 : decode cX3_init 95 = .ok (.putfield 47, 3) := by decide +kernel
theorem dX3_init_98 : decode cX3_init 98 = .ok (.aload_n 0, 1) := by decide +kernel
theorem dX3_init_99 : decode cX3_init 99 = .ok (.bipush 16, 2) := by decide +kernel
theorem dX3_init_101 : decode cX3_init 101 = .ok (.newarray .int, 2) := by decide +kernel
theorem dX3_init_103 : decode cX3_init 103 = .ok (.putfield 51, 3) := by decide +kernel
theorem dX3_init_106 : decode cX3_init 106 = .ok (.aload_n 0, 1) := by decide +kernel
theorem dX3_init_107 : decode cX3_init 107 = .ok (.sipush 144, 3) := by decide +kernel
theorem dX3_init_110 : decode cX3_init 110 = .ok (.newarray .int, 2) := by decide +kernel
theorem dX3_init_112 : decode cX3_init 112 = .ok (.putfield 54, 3) := by decide +kernel
theorem dX3_init_115 : decode cX3_init 115 = .ok (.aload_n 0, 1) := by decide +kernel
theorem dX3_init_116 : decode cX3_init 116 = .ok (.bipush 6, 2) := by decide +kernel
theorem dX3_init_118 : decode cX3_init 118 = .ok (.newarray .int, 2) := by decide +kernel
theorem dX3_init_120 : decode cX3_init 120 = .ok (.putfield 57, 3) := by decide +kernel
theorem dX3_init_123 : decode cX3_init 123 = .ok (.iconst 0, 1) := by decide +kernel
theorem dX3_init_124 : decode cX3_init 124 = .ok (.istore_n 1, 1) := by decide +kernel
theorem dX3_init_125 : decode cX3_init 125 = .ok (.iload_n 1, 1) := by decide +kernel
theorem dX3_init_126 : decode cX3_init 126 = .ok (.bipush 6, 2) := by decide +kernel
theorem dX3_init_128 : decode cX3_init 128 = .ok (.if_icmp .ge 62, 3) := by decide +kernel
theorem dX3_init_131 : decode cX3_init 131 = .ok (.aload_n 0, 1) := by decide +kernel
theorem dX3_init_132 : decode cX3_init 132 = .ok (.getfield 13, 3) := by decide +kernel
theorem dX3_init_135 : decode cX3_init 135 = .ok (.iload_n 1, 1) := by decide +kernel
theorem dX3_init_136 : decode cX3_init 136 = .ok (.sipush 2200, 3) := by decide +kernel
theorem dX3_init_139 : decode cX3_init 139 = .ok (.iastore, 1) := by decide +kernel
theorem dX3_init_140 : decode cX3_init 140 = .ok (.aload_n 0, 1) := by decide +kernel
theorem dX3_init_141 : decode cX3_init 141 = .ok (.getfield 38, 3) := by decide +kernel
theorem dX3_init_144 : decode cX3_init 144 = .ok (.iload_n 1, 1) := by decide +kernel
theorem dX3_init_145 : decode cX3_init 145 = .ok (.sipush 2000, 3) := by decide +kernel
theorem dX3_init_148 : decode cX3_init 148 = .ok (.iastore, 1) := by decide +kernel
theorem dX3_init_149 : decode cX3_init 149 = .ok (.aload_n 0, 1) := by decide +kernel
theorem dX3_init_150 : decode cX3_init 150 = .ok (.getfield 16, 3) := by decide +kernel
theorem dX3_init_153 : decode cX3_init 153 = .ok (.bipush 6, 2) := by decide +kernel
theorem dX3_init_155 : decode cX3_init 155 = .ok (.iload_n 1, 1) := by decide +kernel
theorem dX3_init_156 : decode cX3_init 156 = .ok (.imul, 1) := by decide +kernel
theorem dX3_init_157 : decode cX3_init 157 = .ok (.iload_n 1, 1) := by decide +kernel
theorem dX3_init_158 : decode cX3_init 158 = .ok (.iadd, 1) := by decide +kernel
theorem dX3_init_159 : decode cX3_init 159 = .ok (.bipush 60, 2) := by decide +kernel
theorem dX3_init_161 : decode cX3_init 161 = .ok (.iastore, 1) := by decide +kernel
theorem dX3_init_162 : decode cX3_init 162 = .ok (.aload_n 0, 1) := by decide +kernel
theorem dX3_init_163 : decode cX3_init 163 = .ok (.getfield 16, 3) := by decide +kernel
theorem dX3_init_166 : decode cX3_init 166 = .ok (.bipush 36, 2) := by decide +kernel
theorem dX3_init_168 : decode cX3_init 168 = .ok (.iload_n 1, 1) := by decide +kernel
theorem dX3_init_169 : decode cX3_init 169 = .ok (.iadd, 1) := by decide +kernel
theorem dX3_init_170 : decode cX3_init 170 = .ok (.bipush 20, 2) := by decide +kernel
theorem dX3_init_172 : decode cX3_init 172 = .ok (.iastore, 1) := by decide +kernel
theorem dX3_init_173 : decode cX3_init 173 = .ok (.aload_n 0, 1) := by decide +kernel
theorem dX3_init_174 : decode cX3_init 174 = .ok (.getfield 16, 3) := by decide +kernel
theorem dX3_init_177 : decode cX3_init 177 = .ok (.bipush 42, 2) := by decide +kernel
theorem dX3_init_179 : decode cX3_init 179 = .ok (.iload_n 1, 1) := by decide +kernel
theorem dX3_init_180 : decode cX3_init 180 = .ok (.iadd, 1) := by decide +kernel
theorem dX3_init_181 : decode cX3_init 181 = .ok (.bipush 20, 2) := by decide +kernel
theorem dX3_init_183 : decode cX3_init 183 = .ok (.iastore, 1) := by decide +kernel
theorem dX3_init_184 : decode cX3_init 184 = .ok (.iinc 1 1, 3) := by decide +kernel
theorem dX3_init_187 : decode cX3_init 187 = .ok (.goto (-62), 3) := by decide +kernel
theorem dX3_init_190 : decode cX3_init 190 = .ok (.return_, 1) := by decide +kernel
theorem dX3_thrown_0 : decode cX3_thrown 0 = .ok (.aload_n 0, 1) := by decide +kernel
theorem dX3_thrown_1 : decode cX3_thrown 1 = .ok (.getfield 60, 3) := by decide +kernel
theorem dX3_thrown_4 : decode cX3_thrown 4 = .ok (.ireturn, 1) := by decide +kernel
theorem dX3_goes_0 : decode cX3_goes 0 = .ok (.aload_n 0, 1) := by decide +kernel
theorem dX3_goes_1 : decode cX3_goes 1 = .ok (.iload_n 1, 1) := by decide +kernel
theorem dX3_goes_2 : decode cX3_goes 2 = .ok (.putfield 60, 3) := by decide +kernel
theorem dX3_goes_5 : decode cX3_goes 5 = .ok (.iload_n 1, 1) := by decide +kernel
theorem dX3_goes_6 : decode cX3_goes 6 = .ok (.ifCond .ne 7, 3) := by decide +kernel
theorem dX3_goes_9 : decode cX3_goes 9 = .ok (.iconst 1, 1) := by decide +kernel
theorem dX3_goes_10 : decode cX3_goes 10 = .ok (.goto 4, 3) := by decide +kernel
theorem dX3_goes_13 : decode cX3_goes 13 = .ok (.iconst 0, 1) := by decide +kernel
theorem dX3_goes_14 : decode cX3_goes 14 = .ok (.ireturn, 1) := by decide +kernel
theorem dX3_isIn_0 : decode cX3_isIn 0 = .ok (.iload_n 0, 1) := by decide +kernel
theorem dX3_isIn_1 : decode cX3_isIn 1 = .ok (.iload_n 1, 1) := by decide +kernel
theorem dX3_isIn_2 : decode cX3_isIn 2 = .ok (.if_icmp .lt 12, 3) := by decide +kernel
theorem dX3_isIn_5 : decode cX3_isIn 5 = .ok (.iload_n 0, 1) := by decide +kernel
theorem dX3_isIn_6 : decode cX3_isIn 6 = .ok (.iload_n 2, 1) := by decide +kernel
theorem dX3_isIn_7 : decode cX3_isIn 7 = .ok (.if_icmp .gt 7, 3) := by decide +kernel
theorem dX3_isIn_10 : decode cX3_isIn 10 = .ok (.iconst 1, 1) := by decide +kernel
theorem dX3_isIn_11 : decode cX3_isIn 11 = .ok (.goto 4, 3) := by decide +kernel
theorem dX3_isIn_14 : decode cX3_isIn 14 = .ok (.iconst 0, 1) := by decide +kernel
theorem dX3_isIn_15 : decode cX3_isIn 15 = .ok (.ireturn, 1) := by decide +kernel
set_option maxRecDepth 20000 in
theorem ggX3_isZone_X3_isIn : GoodIn wsX3_isZone wsX3_isIn := goodIn_r _ [4] (by decide +kernel) (by decide +kernel)
set_option maxRecDepth 20000 in
theorem gX3_isZone_X3_isIn : GoodIn wsX3_isZone (va_wsS RX3 63 yX3_isIn wsX3_isIn) := goodIn_app (goodIn_of _ (by decide +kernel)) ggX3_isZone_X3_isIn
theorem dX3_isZone_0 : decode cX3_isZone 0 = .ok (.iload_n 0, 1) := by decide +kernel
theorem dX3_isZone_1 : decode cX3_isZone 1 = .ok (.iconst 0, 1) := by decide +kernel
theorem dX3_isZone_2 : decode cX3_isZone 2 = .ok (.iconst 5, 1) := by decide +kernel
theorem dX3_isZone_3 : decode cX3_isZone 3 = .ok (.invokestatic 63, 3) := by decide +kernel
theorem dX3_isZone_6 : decode cX3_isZone 6 = .ok (.ireturn, 1) := by decide +kernel
set_option maxRecDepth 20000 in
theorem ggX3_isFan_X3_isIn : GoodIn wsX3_isFan wsX3_isIn := goodIn_r _ [4] (by decide +kernel) (by decide +kernel)
set_option maxRecDepth 20000 in
theorem gX3_isFan_X3_isIn : GoodIn wsX3_isFan (va_wsS RX3 63 yX3_isIn wsX3_isIn) := goodIn_app (goodIn_of _ (by decide +kernel)) ggX3_isFan_X3_isIn
theorem dX3_isFan_0 : decode cX3_isFan 0 = .ok (.iload_n 0, 1) := by decide +kernel
theorem dX3_isFan_1 : decode cX3_isFan 1 = .ok (.iconst 0, 1) := by decide +kernel
theorem dX3_isFan_2 : decode cX3_isFan 2 = .ok (.bipush 7, 2) := by decide +kernel
theorem dX3_isFan_4 : decode cX3_isFan 4 = .ok (.invokestatic 63, 3) := by decide +kernel
theorem dX3_isFan_7 : decode cX3_isFan 7 = .ok (.ireturn, 1) := by decide +kernel
theorem dX3_part_0 : decode cX3_part 0 = .ok (.iload_n 0, 1) := by decide +kernel
theorem dX3_part_1 : decode cX3_part 1 = .ok (.ifCond .lt 9, 3) := by decide +kernel
theorem dX3_part_4 : decode cX3_part 4 = .ok (.iload_n 0, 1) := by decide +kernel
theorem dX3_part_5 : decode cX3_part 5 = .ok (.iload_n 1, 1) := by decide +kernel
theorem dX3_part_6 : decode cX3_part 6 = .ok (.idiv, 1) := by decide +kernel
theorem dX3_part_7 : decode cX3_part 7 = .ok (.goto 11, 3) := by decide +kernel
theorem dX3_part_10 : decode cX3_part 10 = .ok (.iload_n 1, 1) := by decide +kernel
theorem dX3_part_11 : decode cX3_part 11 = .ok (.iconst 1, 1) := by decide +kernel
theorem dX3_part_12 : decode cX3_part 12 = .ok (.isub, 1) := by decide +kernel
theorem dX3_part_13 : decode cX3_part 13 = .ok (.iload_n 0, 1) := by decide +kernel
theorem dX3_part_14 : decode cX3_part 14 = .ok (.isub, 1) := by decide +kernel
theorem dX3_part_15 : decode cX3_part 15 = .ok (.iload_n 1, 1) := by decide +kernel
theorem dX3_part_16 : decode cX3_part 16 = .ok (.idiv, 1) := by decide +kernel
theorem dX3_part_17 : decode cX3_part 17 = .ok (.ineg, 1) := by decide +kernel
theorem dX3_part_18 : decode cX3_part 18 = .ok (.ireturn, 1) := by decide +kernel
theorem dX3_held_0 : decode cX3_held 0 = .ok (.iload_n 0, 1) := by decide +kernel
theorem dX3_held_1 : decode cX3_held 1 = .ok (.iload_n 1, 1) := by decide +kernel
theorem dX3_held_2 : decode cX3_held 2 = .ok (.if_icmp .ge 7, 3) := by decide +kernel
theorem dX3_held_5 : decode cX3_held 5 = .ok (.iload_n 1, 1) := by decide +kernel
theorem dX3_held_6 : decode cX3_held 6 = .ok (.goto 13, 3) := by decide +kernel
theorem dX3_held_9 : decode cX3_held 9 = .ok (.iload_n 0, 1) := by decide +kernel
theorem dX3_held_10 : decode cX3_held 10 = .ok (.iload_n 2, 1) := by decide +kernel
theorem dX3_held_11 : decode cX3_held 11 = .ok (.if_icmp .le 7, 3) := by decide +kernel
theorem dX3_held_14 : decode cX3_held 14 = .ok (.iload_n 2, 1) := by decide +kernel
theorem dX3_held_15 : decode cX3_held 15 = .ok (.goto 4, 3) := by decide +kernel
theorem dX3_held_18 : decode cX3_held 18 = .ok (.iload_n 0, 1) := by decide +kernel
theorem dX3_held_19 : decode cX3_held 19 = .ok (.ireturn, 1) := by decide +kernel
set_option maxRecDepth 20000 in
theorem ggX3_setLoad_X3_isZone : GoodIn wsX3_setLoad wsX3_isZone := goodIn_r _ [5, 6, 7, 4, 8] (by decide +kernel) (by decide +kernel)
set_option maxRecDepth 20000 in
theorem gX3_setLoad_X3_isZone : GoodIn wsX3_setLoad (va_wsS RX3 67 yX3_isZone wsX3_isZone) := goodIn_app (goodIn_of _ (by decide +kernel)) ggX3_setLoad_X3_isZone
set_option maxRecDepth 20000 in
theorem ggX3_setLoad_X3_isIn : GoodIn wsX3_setLoad wsX3_isIn := goodIn_r _ [8] (by decide +kernel) (by decide +kernel)
set_option maxRecDepth 20000 in
theorem gX3_setLoad_X3_isIn : GoodIn wsX3_setLoad (va_wsS RX3 63 yX3_isIn wsX3_isIn) := goodIn_app (goodIn_of _ (by decide +kernel)) ggX3_setLoad_X3_isIn
set_option maxRecDepth 20000 in
theorem ggX3_setLoad_X3_goes : GoodIn wsX3_setLoad wsX3_goes := goodIn_r _ [12, 13, 14, 15, 16, 17, 18, 19, 20, 21, 22, 23, 24, 25, 26, 27, 28, 29, 30] (by decide +kernel) (by decide +kernel)
set_option maxRecDepth 20000 in
theorem gX3_setLoad_X3_goes : GoodIn wsX3_setLoad (wsV RX3 71 RX3 yX3_goes wsX3_goes) := goodIn_app (goodIn_of _ (by decide +kernel)) ggX3_setLoad_X3_goes
theorem dX3_setLoad_0 : decode cX3_setLoad 0 = .ok (.aload_n 0, 1) := by decide +kernel
theorem dX3_setLoad_1 : decode cX3_setLoad 1 = .ok (.iload_n 1, 1) := by decide +kernel
theorem dX3_setLoad_2 : decode cX3_setLoad 2 = .ok (.invokestatic 67, 3) := by decide +kernel
theorem dX3_setLoad_5 : decode cX3_setLoad 5 = .ok (.ifCond .eq 18, 3) := by decide +kernel
theorem dX3_setLoad_8 : decode cX3_setLoad 8 = .ok (.iload_n 2, 1) := by decide +kernel
theorem dX3_setLoad_9 : decode cX3_setLoad 9 = .ok (.iconst 0, 1) := by decide +kernel
theorem dX3_setLoad_10 : decode cX3_setLoad 10 = .ok (.sipush 200, 3) := by decide +kernel
theorem dX3_setLoad_13 : decode cX3_setLoad 13 = .ok (.invokestatic 63, 3) := by decide +kernel
theorem dX3_setLoad_16 : decode cX3_setLoad 16 = .ok (.ifCond .eq 7, 3) := by decide +kernel
theorem dX3_setLoad_19 : decode cX3_setLoad 19 = .ok (.iconst 0, 1) := by decide +kernel
theorem dX3_setLoad_20 : decode cX3_setLoad 20 = .ok (.goto 4, 3) := by decide +kernel
theorem dX3_setLoad_23 : decode cX3_setLoad 23 = .ok (.iconst 1, 1) := by decide +kernel
theorem dX3_setLoad_24 : decode cX3_setLoad 24 = .ok (.invokevirtual 71, 3) := by decide +kernel
theorem dX3_setLoad_27 : decode cX3_setLoad 27 = .ok (.ifCond .ne 5, 3) := by decide +kernel
theorem dX3_setLoad_30 : decode cX3_setLoad 30 = .ok (.iconst 0, 1) := by decide +kernel
theorem dX3_setLoad_31 : decode cX3_setLoad 31 = .ok (.ireturn, 1) := by decide +kernel
theorem dX3_setLoad_32 : decode cX3_setLoad 32 = .ok (.aload_n 0, 1) := by decide +kernel
theorem dX3_setLoad_33 : decode cX3_setLoad 33 = .ok (.getfield 7, 3) := by decide +kernel
theorem dX3_setLoad_36 : decode cX3_setLoad 36 = .ok (.iload_n 1, 1) := by decide +kernel
theorem dX3_setLoad_37 : decode cX3_setLoad 37 = .ok (.iaload, 1) := by decide +kernel
theorem dX3_setLoad_38 : decode cX3_setLoad 38 = .ok (.istore_n 3, 1) := by decide +kernel
theorem dX3_setLoad_39 : decode cX3_setLoad 39 = .ok (.aload_n 0, 1) := by decide +kernel
theorem dX3_setLoad_40 : decode cX3_setLoad 40 = .ok (.getfield 7, 3) := by decide +kernel
theorem dX3_setLoad_43 : decode cX3_setLoad 43 = .ok (.iload_n 1, 1) := by decide +kernel
theorem dX3_setLoad_44 : decode cX3_setLoad 44 = .ok (.iload_n 2, 1) := by decide +kernel
theorem dX3_setLoad_45 : decode cX3_setLoad 45 = .ok (.iastore, 1) := by decide +kernel
theorem dX3_setLoad_46 : decode cX3_setLoad 46 = .ok (.iload_n 3, 1) := by decide +kernel
theorem dX3_setLoad_47 : decode cX3_setLoad 47 = .ok (.ireturn, 1) := by decide +kernel
set_option maxRecDepth 20000 in
theorem ggX3_setSetpoint_X3_isZone : GoodIn wsX3_setSetpoint wsX3_isZone := goodIn_r _ [6, 7, 8, 5, 9] (by decide +kernel) (by decide +kernel)
set_option maxRecDepth 20000 in
theorem gX3_setSetpoint_X3_isZone : GoodIn wsX3_setSetpoint (va_wsS RX3 67 yX3_isZone wsX3_isZone) := goodIn_app (goodIn_of _ (by decide +kernel)) ggX3_setSetpoint_X3_isZone
set_option maxRecDepth 20000 in
theorem ggX3_setSetpoint_X3_isIn : GoodIn wsX3_setSetpoint wsX3_isIn := goodIn_r _ [9] (by decide +kernel) (by decide +kernel)
set_option maxRecDepth 20000 in
theorem gX3_setSetpoint_X3_isIn : GoodIn wsX3_setSetpoint (va_wsS RX3 63 yX3_isIn wsX3_isIn) := goodIn_app (goodIn_of _ (by decide +kernel)) ggX3_setSetpoint_X3_isIn
set_option maxRecDepth 20000 in
theorem ggX3_setSetpoint_X3_goes : GoodIn wsX3_setSetpoint wsX3_goes := goodIn_r _ [13, 14, 15, 16, 17, 18, 19, 20, 21, 22, 23, 24, 25, 26, 27, 28, 29, 30, 31] (by decide +kernel) (by decide +kernel)
set_option maxRecDepth 20000 in
theorem gX3_setSetpoint_X3_goes : GoodIn wsX3_setSetpoint (wsV RX3 71 RX3 yX3_goes wsX3_goes) := goodIn_app (goodIn_of _ (by decide +kernel)) ggX3_setSetpoint_X3_goes
theorem dX3_setSetpoint_0 : decode cX3_setSetpoint 0 = .ok (.aload_n 0, 1) := by decide +kernel
theorem dX3_setSetpoint_1 : decode cX3_setSetpoint 1 = .ok (.iload_n 1, 1) := by decide +kernel
theorem dX3_setSetpoint_2 : decode cX3_setSetpoint 2 = .ok (.invokestatic 67, 3) := by decide +kernel
theorem dX3_setSetpoint_5 : decode cX3_setSetpoint 5 = .ok (.ifCond .eq 20, 3) := by decide +kernel
theorem dX3_setSetpoint_8 : decode cX3_setSetpoint 8 = .ok (.iload_n 2, 1) := by decide +kernel
theorem dX3_setSetpoint_9 : decode cX3_setSetpoint 9 = .ok (.sipush 1500, 3) := by decide +kernel
theorem dX3_setSetpoint_12 : decode cX3_setSetpoint 12 = .ok (.sipush 3500, 3) := by decide +kernel
theorem dX3_setSetpoint_15 : decode cX3_setSetpoint 15 = .ok (.invokestatic 63, 3) := by decide +kernel
theorem dX3_setSetpoint_18 : decode cX3_setSetpoint 18 = .ok (.ifCond .eq 7, 3) := by decide +kernel
theorem dX3_setSetpoint_21 : decode cX3_setSetpoint 21 = .ok (.iconst 0, 1) := by decide +kernel
theorem dX3_setSetpoint_22 : decode cX3_setSetpoint 22 = .ok (.goto 4, 3) := by decide +kernel
theorem dX3_setSetpoint_25 : decode cX3_setSetpoint 25 = .ok (.iconst 1, 1) := by decide +kernel
theorem dX3_setSetpoint_26 : decode cX3_setSetpoint 26 = .ok (.invokevirtual 71, 3) := by decide +kernel
theorem dX3_setSetpoint_29 : decode cX3_setSetpoint 29 = .ok (.ifCond .ne 5, 3) := by decide +kernel
theorem dX3_setSetpoint_32 : decode cX3_setSetpoint 32 = .ok (.iconst 0, 1) := by decide +kernel
theorem dX3_setSetpoint_33 : decode cX3_setSetpoint 33 = .ok (.ireturn, 1) := by decide +kernel
theorem dX3_setSetpoint_34 : decode cX3_setSetpoint 34 = .ok (.aload_n 0, 1) := by decide +kernel
theorem dX3_setSetpoint_35 : decode cX3_setSetpoint 35 = .ok (.getfield 13, 3) := by decide +kernel
theorem dX3_setSetpoint_38 : decode cX3_setSetpoint 38 = .ok (.iload_n 1, 1) := by decide +kernel
theorem dX3_setSetpoint_39 : decode cX3_setSetpoint 39 = .ok (.iaload, 1) := by decide +kernel
theorem dX3_setSetpoint_40 : decode cX3_setSetpoint 40 = .ok (.istore_n 3, 1) := by decide +kernel
theorem dX3_setSetpoint_41 : decode cX3_setSetpoint 41 = .ok (.aload_n 0, 1) := by decide +kernel
theorem dX3_setSetpoint_42 : decode cX3_setSetpoint 42 = .ok (.getfield 13, 3) := by decide +kernel
theorem dX3_setSetpoint_45 : decode cX3_setSetpoint 45 = .ok (.iload_n 1, 1) := by decide +kernel
theorem dX3_setSetpoint_46 : decode cX3_setSetpoint 46 = .ok (.iload_n 2, 1) := by decide +kernel
theorem dX3_setSetpoint_47 : decode cX3_setSetpoint 47 = .ok (.iastore, 1) := by decide +kernel
theorem dX3_setSetpoint_48 : decode cX3_setSetpoint 48 = .ok (.aload_n 0, 1) := by decide +kernel
theorem dX3_setSetpoint_49 : decode cX3_setSetpoint 49 = .ok (.getfield 41, 3) := by decide +kernel
theorem dX3_setSetpoint_52 : decode cX3_setSetpoint 52 = .ok (.iload_n 1, 1) := by decide +kernel
theorem dX3_setSetpoint_53 : decode cX3_setSetpoint 53 = .ok (.iconst 0, 1) := by decide +kernel
theorem dX3_setSetpoint_54 : decode cX3_setSetpoint 54 = .ok (.iastore, 1) := by decide +kernel
theorem dX3_setSetpoint_55 : decode cX3_setSetpoint 55 = .ok (.iload_n 3, 1) := by decide +kernel
theorem dX3_setSetpoint_56 : decode cX3_setSetpoint 56 = .ok (.ireturn, 1) := by decide +kernel
set_option maxRecDepth 20000 in
theorem ggX3_setEffect_X3_isFan : GoodIn wsX3_setEffect wsX3_isFan := goodIn_r _ [5, 6, 7, 4, 8] (by decide +kernel) (by decide +kernel)
set_option maxRecDepth 20000 in
theorem gX3_setEffect_X3_isFan : GoodIn wsX3_setEffect (va_wsS RX3 74 yX3_isFan wsX3_isFan) := goodIn_app (goodIn_of _ (by decide +kernel)) ggX3_setEffect_X3_isFan
set_option maxRecDepth 20000 in
theorem ggX3_setEffect_X3_isZone : GoodIn wsX3_setEffect wsX3_isZone := goodIn_r _ [11, 6, 7, 4, 8] (by decide +kernel) (by decide +kernel)
set_option maxRecDepth 20000 in
theorem gX3_setEffect_X3_isZone : GoodIn wsX3_setEffect (va_wsS RX3 67 yX3_isZone wsX3_isZone) := goodIn_app (goodIn_of _ (by decide +kernel)) ggX3_setEffect_X3_isZone
set_option maxRecDepth 20000 in
theorem ggX3_setEffect_X3_isIn : GoodIn wsX3_setEffect wsX3_isIn := goodIn_r _ [8] (by decide +kernel) (by decide +kernel)
set_option maxRecDepth 20000 in
theorem gX3_setEffect_X3_isIn : GoodIn wsX3_setEffect (va_wsS RX3 63 yX3_isIn wsX3_isIn) := goodIn_app (goodIn_of _ (by decide +kernel)) ggX3_setEffect_X3_isIn
set_option maxRecDepth 20000 in
theorem ggX3_setEffect_X3_goes : GoodIn wsX3_setEffect wsX3_goes := goodIn_r _ [15, 16, 17, 18, 19, 20, 21, 22, 23, 24, 25, 26, 27, 28, 29, 30, 31, 32, 33] (by decide +kernel) (by decide +kernel)
set_option maxRecDepth 20000 in
theorem gX3_setEffect_X3_goes : GoodIn wsX3_setEffect (wsV RX3 71 RX3 yX3_goes wsX3_goes) := goodIn_app (goodIn_of _ (by decide +kernel)) ggX3_setEffect_X3_goes
theorem dX3_setEffect_0 : decode cX3_setEffect 0 = .ok (.aload_n 0, 1) := by decide +kernel
theorem dX3_setEffect_1 : decode cX3_setEffect 1 = .ok (.iload_n 1, 1) := by decide +kernel
theorem dX3_setEffect_2 : decode cX3_setEffect 2 = .ok (.invokestatic 74, 3) := by decide +kernel
theorem dX3_setEffect_5 : decode cX3_setEffect 5 = .ok (.ifCond .eq 24, 3) := by decide +kernel
theorem dX3_setEffect_8 : decode cX3_setEffect 8 = .ok (.iload_n 2, 1) := by decide +kernel
theorem dX3_setEffect_9 : decode cX3_setEffect 9 = .ok (.invokestatic 67, 3) := by decide +kernel
theorem dX3_setEffect_12 : decode cX3_setEffect 12 = .ok (.ifCond .eq 17, 3) := by decide +kernel
theorem dX3_setEffect_15 : decode cX3_setEffect 15 = .ok (.iload_n 3, 1) := by decide +kernel
theorem dX3_setEffect_16 : decode cX3_setEffect 16 = .ok (.iconst 0, 1) := by decide +kernel
theorem dX3_setEffect_17 : decode cX3_setEffect 17 = .ok (.bipush 100, 2) := by decide +kernel
theorem dX3_setEffect_19 : decode cX3_setEffect 19 = .ok (.invokestatic 63, 3) := by decide +kernel
theorem dX3_setEffect_22 : decode cX3_setEffect 22 = .ok (.ifCond .eq 7, 3) := by decide +kernel
theorem dX3_setEffect_25 : decode cX3_setEffect 25 = .ok (.iconst 0, 1) := by decide +kernel
theorem dX3_setEffect_26 : decode cX3_setEffect 26 = .ok (.goto 4, 3) := by decide +kernel
theorem dX3_setEffect_29 : decode cX3_setEffect 29 = .ok (.iconst 1, 1) := by decide +kernel
theorem dX3_setEffect_30 : decode cX3_setEffect 30 = .ok (.invokevirtual 71, 3) := by decide +kernel
theorem dX3_setEffect_33 : decode cX3_setEffect 33 = .ok (.ifCond .ne 5, 3) := by decide +kernel
theorem dX3_setEffect_36 : decode cX3_setEffect 36 = .ok (.iconst 0, 1) := by decide +kernel
theorem dX3_setEffect_37 : decode cX3_setEffect 37 = .ok (.ireturn, 1) := by decide +kernel
theorem dX3_setEffect_38 : decode cX3_setEffect 38 = .ok (.aload_n 0, 1) := by decide +kernel
theorem dX3_setEffect_39 : decode cX3_setEffect 39 = .ok (.getfield 16, 3) := by decide +kernel
theorem dX3_setEffect_42 : decode cX3_setEffect 42 = .ok (.bipush 6, 2) := by decide +kernel
theorem dX3_setEffect_44 : decode cX3_setEffect 44 = .ok (.iload_n 1, 1) := by decide +kernel
theorem dX3_setEffect_45 : decode cX3_setEffect 45 = .ok (.imul, 1) := by decide +kernel
theorem dX3_setEffect_46 : decode cX3_setEffect 46 = .ok (.iload_n 2, 1) := by decide +kernel
theorem dX3_setEffect_47 : decode cX3_setEffect 47 = .ok (.iadd, 1) := by decide +kernel
theorem dX3_setEffect_48 : decode cX3_setEffect 48 = .ok (.iaload, 1) := by decide +kernel
theorem dX3_setEffect_49 : decode cX3_setEffect 49 = .ok (.istore 4, 2) := by decide +kernel
theorem dX3_setEffect_51 : decode cX3_setEffect 51 = .ok (.aload_n 0, 1) := by decide +kernel
theorem dX3_setEffect_52 : decode cX3_setEffect 52 = .ok (.getfield 16, 3) := by decide +kernel
theorem dX3_setEffect_55 : decode cX3_setEffect 55 = .ok (.bipush 6, 2) := by decide +kernel
theorem dX3_setEffect_57 : decode cX3_setEffect 57 = .ok (.iload_n 1, 1) := by decide +kernel
theorem dX3_setEffect_58 : decode cX3_setEffect 58 = .ok (.imul, 1) := by decide +kernel
theorem dX3_setEffect_59 : decode cX3_setEffect 59 = .ok (.iload_n 2, 1) := by decide +kernel
theorem dX3_setEffect_60 : decode cX3_setEffect 60 = .ok (.iadd, 1) := by decide +kernel
theorem dX3_setEffect_61 : decode cX3_setEffect 61 = .ok (.iload_n 3, 1) := by decide +kernel
theorem dX3_setEffect_62 : decode cX3_setEffect 62 = .ok (.iastore, 1) := by decide +kernel
theorem dX3_setEffect_63 : decode cX3_setEffect 63 = .ok (.iload 4, 2) := by decide +kernel
theorem dX3_setEffect_65 : decode cX3_setEffect 65 = .ok (.ireturn, 1) := by decide +kernel
set_option maxRecDepth 20000 in
theorem ggX3_setGains_X3_isIn : GoodIn wsX3_setGains wsX3_isIn := goodIn_r _ [6] (by decide +kernel) (by decide +kernel)
set_option maxRecDepth 20000 in
theorem gX3_setGains_X3_isIn : GoodIn wsX3_setGains (va_wsS RX3 63 yX3_isIn wsX3_isIn) := goodIn_app (goodIn_of _ (by decide +kernel)) ggX3_setGains_X3_isIn
set_option maxRecDepth 20000 in
theorem ggX3_setGains_X3_goes : GoodIn wsX3_setGains wsX3_goes := goodIn_r _ [10, 11, 12, 13, 14, 15, 16, 17, 18, 19, 20, 21, 22, 23, 24, 25, 26, 27, 28] (by decide +kernel) (by decide +kernel)
set_option maxRecDepth 20000 in
theorem gX3_setGains_X3_goes : GoodIn wsX3_setGains (wsV RX3 71 RX3 yX3_goes wsX3_goes) := goodIn_app (goodIn_of _ (by decide +kernel)) ggX3_setGains_X3_goes
theorem dX3_setGains_0 : decode cX3_setGains 0 = .ok (.aload_n 0, 1) := by decide +kernel
theorem dX3_setGains_1 : decode cX3_setGains 1 = .ok (.iload_n 1, 1) := by decide +kernel
theorem dX3_setGains_2 : decode cX3_setGains 2 = .ok (.iconst 0, 1) := by decide +kernel
theorem dX3_setGains_3 : decode cX3_setGains 3 = .ok (.sipush 200, 3) := by decide +kernel
theorem dX3_setGains_6 : decode cX3_setGains 6 = .ok (.invokestatic 63, 3) := by decide +kernel
theorem dX3_setGains_9 : decode cX3_setGains 9 = .ok (.ifCond .eq 18, 3) := by decide +kernel
theorem dX3_setGains_12 : decode cX3_setGains 12 = .ok (.iload_n 2, 1) := by decide +kernel
theorem dX3_setGains_13 : decode cX3_setGains 13 = .ok (.iconst 0, 1) := by decide +kernel
theorem dX3_setGains_14 : decode cX3_setGains 14 = .ok (.sipush 200, 3) := by decide +kernel
theorem dX3_setGains_17 : decode cX3_setGains 17 = .ok (.invokestatic 63, 3) := by decide +kernel
theorem dX3_setGains_20 : decode cX3_setGains 20 = .ok (.ifCond .eq 7, 3) := by decide +kernel
theorem dX3_setGains_23 : decode cX3_setGains 23 = .ok (.iconst 0, 1) := by decide +kernel
theorem dX3_setGains_24 : decode cX3_setGains 24 = .ok (.goto 4, 3) := by decide +kernel
theorem dX3_setGains_27 : decode cX3_setGains 27 = .ok (.iconst 1, 1) := by decide +kernel
theorem dX3_setGains_28 : decode cX3_setGains 28 = .ok (.invokevirtual 71, 3) := by decide +kernel
theorem dX3_setGains_31 : decode cX3_setGains 31 = .ok (.ifCond .eq 13, 3) := by decide +kernel
theorem dX3_setGains_34 : decode cX3_setGains 34 = .ok (.aload_n 0, 1) := by decide +kernel
theorem dX3_setGains_35 : decode cX3_setGains 35 = .ok (.iload_n 1, 1) := by decide +kernel
theorem dX3_setGains_36 : decode cX3_setGains 36 = .ok (.putfield 19, 3) := by decide +kernel
theorem dX3_setGains_39 : decode cX3_setGains 39 = .ok (.aload_n 0, 1) := by decide +kernel
theorem dX3_setGains_40 : decode cX3_setGains 40 = .ok (.iload_n 2, 1) := by decide +kernel
theorem dX3_setGains_41 : decode cX3_setGains 41 = .ok (.putfield 23, 3) := by decide +kernel
theorem dX3_setGains_44 : decode cX3_setGains 44 = .ok (.return_, 1) := by decide +kernel
set_option maxRecDepth 20000 in
theorem ggX3_setHall_X3_isIn : GoodIn wsX3_setHall wsX3_isIn := goodIn_r _ [6] (by decide +kernel) (by decide +kernel)
set_option maxRecDepth 20000 in
theorem gX3_setHall_X3_isIn : GoodIn wsX3_setHall (va_wsS RX3 63 yX3_isIn wsX3_isIn) := goodIn_app (goodIn_of _ (by decide +kernel)) ggX3_setHall_X3_isIn
set_option maxRecDepth 20000 in
theorem ggX3_setHall_X3_goes : GoodIn wsX3_setHall wsX3_goes := goodIn_r _ [10, 11, 12, 13, 14, 15, 16, 17, 18, 19, 20, 21, 22, 23, 24, 25, 26, 27, 28] (by decide +kernel) (by decide +kernel)
set_option maxRecDepth 20000 in
theorem gX3_setHall_X3_goes : GoodIn wsX3_setHall (wsV RX3 71 RX3 yX3_goes wsX3_goes) := goodIn_app (goodIn_of _ (by decide +kernel)) ggX3_setHall_X3_goes
theorem dX3_setHall_0 : decode cX3_setHall 0 = .ok (.aload_n 0, 1) := by decide +kernel
theorem dX3_setHall_1 : decode cX3_setHall 1 = .ok (.iload_n 1, 1) := by decide +kernel
theorem dX3_setHall_2 : decode cX3_setHall 2 = .ok (.sipush 1000, 3) := by decide +kernel
theorem dX3_setHall_5 : decode cX3_setHall 5 = .ok (.sipush 5000, 3) := by decide +kernel
theorem dX3_setHall_8 : decode cX3_setHall 8 = .ok (.invokestatic 63, 3) := by decide +kernel
theorem dX3_setHall_11 : decode cX3_setHall 11 = .ok (.ifCond .eq 20, 3) := by decide +kernel
theorem dX3_setHall_14 : decode cX3_setHall 14 = .ok (.iload_n 2, 1) := by decide +kernel
theorem dX3_setHall_15 : decode cX3_setHall 15 = .ok (.sipush 1000, 3) := by decide +kernel
theorem dX3_setHall_18 : decode cX3_setHall 18 = .ok (.sipush 5000, 3) := by decide +kernel
end
section
theorem dX3_setHall_21 : decode cX3_setHall 21 = .ok (.invokestatic 63, 3) := by decide +kernel
theorem dX3_setHall_24 : decode cX3_setHall 24 = .ok (.ifCond .eq 7, 3) := by decide +kernel
theorem dX3_setHall_27 : decode cX3_setHall 27 = .ok (.iconst 0, 1) := by decide +kernel
theorem dX3_setHall_28 : decode cX3_setHall 28 = .ok (.goto 4, 3) := by decide +kernel
theorem dX3_setHall_31 : decode cX3_setHall 31 = .ok (.iconst 1, 1) := by decide +kernel
theorem dX3_setHall_32 : decode cX3_setHall 32 = .ok (.invokevirtual 71, 3) := by decide +kernel
theorem dX3_setHall_35 : decode cX3_setHall 35 = .ok (.ifCond .eq 13, 3) := by decide +kernel
theorem dX3_setHall_38 : decode cX3_setHall 38 = .ok (.aload_n 0, 1) := by decide +kernel
theorem dX3_setHall_39 : decode cX3_setHall 39 = .ok (.iload_n 1, 1) := by decide +kernel
theorem dX3_setHall_40 : decode cX3_setHall 40 = .ok (.putfield 26, 3) := by decide +kernel
theorem dX3_setHall_43 : decode cX3_setHall 43 = .ok (.aload_n 0, 1) := by decide +kernel
theorem dX3_setHall_44 : decode cX3_setHall 44 = .ok (.iload_n 2, 1) := by decide +kernel
theorem dX3_setHall_45 : decode cX3_setHall 45 = .ok (.putfield 29, 3) := by decide +kernel
theorem dX3_setHall_48 : decode cX3_setHall 48 = .ok (.return_, 1) := by decide +kernel
set_option maxRecDepth 20000 in
theorem ggX3_setDelay_X3_isIn : GoodIn wsX3_setDelay wsX3_isIn := goodIn_r _ [5] (by decide +kernel) (by decide +kernel)
set_option maxRecDepth 20000 in
theorem gX3_setDelay_X3_isIn : GoodIn wsX3_setDelay (va_wsS RX3 63 yX3_isIn wsX3_isIn) := goodIn_app (goodIn_of _ (by decide +kernel)) ggX3_setDelay_X3_isIn
set_option maxRecDepth 20000 in
theorem ggX3_setDelay_X3_goes : GoodIn wsX3_setDelay wsX3_goes := goodIn_r _ [9, 10, 11, 12, 13, 14, 15, 16, 17, 18, 19, 20, 21, 22, 23, 24, 25, 26, 27] (by decide +kernel) (by decide +kernel)
set_option maxRecDepth 20000 in
theorem gX3_setDelay_X3_goes : GoodIn wsX3_setDelay (wsV RX3 71 RX3 yX3_goes wsX3_goes) := goodIn_app (goodIn_of _ (by decide +kernel)) ggX3_setDelay_X3_goes
theorem dX3_setDelay_0 : decode cX3_setDelay 0 = .ok (.aload_n 0, 1) := by decide +kernel
theorem dX3_setDelay_1 : decode cX3_setDelay 1 = .ok (.iload_n 1, 1) := by decide +kernel
theorem dX3_setDelay_2 : decode cX3_setDelay 2 = .ok (.iconst 0, 1) := by decide +kernel
theorem dX3_setDelay_3 : decode cX3_setDelay 3 = .ok (.bipush 8, 2) := by decide +kernel
theorem dX3_setDelay_5 : decode cX3_setDelay 5 = .ok (.invokestatic 63, 3) := by decide +kernel
theorem dX3_setDelay_8 : decode cX3_setDelay 8 = .ok (.ifCond .eq 7, 3) := by decide +kernel
theorem dX3_setDelay_11 : decode cX3_setDelay 11 = .ok (.iconst 0, 1) := by decide +kernel
theorem dX3_setDelay_12 : decode cX3_setDelay 12 = .ok (.goto 4, 3) := by decide +kernel
theorem dX3_setDelay_15 : decode cX3_setDelay 15 = .ok (.iconst 1, 1) := by decide +kernel
theorem dX3_setDelay_16 : decode cX3_setDelay 16 = .ok (.invokevirtual 71, 3) := by decide +kernel
theorem dX3_setDelay_19 : decode cX3_setDelay 19 = .ok (.ifCond .ne 5, 3) := by decide +kernel
theorem dX3_setDelay_22 : decode cX3_setDelay 22 = .ok (.iconst 0, 1) := by decide +kernel
theorem dX3_setDelay_23 : decode cX3_setDelay 23 = .ok (.ireturn, 1) := by decide +kernel
theorem dX3_setDelay_24 : decode cX3_setDelay 24 = .ok (.aload_n 0, 1) := by decide +kernel
theorem dX3_setDelay_25 : decode cX3_setDelay 25 = .ok (.getfield 32, 3) := by decide +kernel
theorem dX3_setDelay_28 : decode cX3_setDelay 28 = .ok (.istore_n 2, 1) := by decide +kernel
theorem dX3_setDelay_29 : decode cX3_setDelay 29 = .ok (.aload_n 0, 1) := by decide +kernel
theorem dX3_setDelay_30 : decode cX3_setDelay 30 = .ok (.iload_n 1, 1) := by decide +kernel
theorem dX3_setDelay_31 : decode cX3_setDelay 31 = .ok (.putfield 32, 3) := by decide +kernel
theorem dX3_setDelay_34 : decode cX3_setDelay 34 = .ok (.iload_n 2, 1) := by decide +kernel
theorem dX3_setDelay_35 : decode cX3_setDelay 35 = .ok (.ireturn, 1) := by decide +kernel
theorem dX3_running_0 : decode cX3_running 0 = .ok (.iconst 0, 1) := by decide +kernel
theorem dX3_running_1 : decode cX3_running 1 = .ok (.istore_n 1, 1) := by decide +kernel
theorem dX3_running_2 : decode cX3_running 2 = .ok (.iconst 0, 1) := by decide +kernel
theorem dX3_running_3 : decode cX3_running 3 = .ok (.istore_n 2, 1) := by decide +kernel
theorem dX3_running_4 : decode cX3_running 4 = .ok (.iload_n 2, 1) := by decide +kernel
theorem dX3_running_5 : decode cX3_running 5 = .ok (.bipush 8, 2) := by decide +kernel
theorem dX3_running_7 : decode cX3_running 7 = .ok (.if_icmp .ge 26, 3) := by decide +kernel
theorem dX3_running_10 : decode cX3_running 10 = .ok (.iload_n 1, 1) := by decide +kernel
theorem dX3_running_11 : decode cX3_running 11 = .ok (.aload_n 0, 1) := by decide +kernel
theorem dX3_running_12 : decode cX3_running 12 = .ok (.getfield 47, 3) := by decide +kernel
theorem dX3_running_15 : decode cX3_running 15 = .ok (.iload_n 2, 1) := by decide +kernel
theorem dX3_running_16 : decode cX3_running 16 = .ok (.baload, 1) := by decide +kernel
theorem dX3_running_17 : decode cX3_running 17 = .ok (.ifCond .eq 7, 3) := by decide +kernel
theorem dX3_running_20 : decode cX3_running 20 = .ok (.iconst 0, 1) := by decide +kernel
theorem dX3_running_21 : decode cX3_running 21 = .ok (.goto 4, 3) := by decide +kernel
theorem dX3_running_24 : decode cX3_running 24 = .ok (.iconst 1, 1) := by decide +kernel
theorem dX3_running_25 : decode cX3_running 25 = .ok (.iadd, 1) := by decide +kernel
theorem dX3_running_26 : decode cX3_running 26 = .ok (.istore_n 1, 1) := by decide +kernel
theorem dX3_running_27 : decode cX3_running 27 = .ok (.iinc 2 1, 3) := by decide +kernel
theorem dX3_running_30 : decode cX3_running 30 = .ok (.goto (-26), 3) := by decide +kernel
theorem dX3_running_33 : decode cX3_running 33 = .ok (.iload_n 1, 1) := by decide +kernel
theorem dX3_running_34 : decode cX3_running 34 = .ok (.ireturn, 1) := by decide +kernel
set_option maxRecDepth 20000 in
theorem ggX3_fail_X3_isFan : GoodIn wsX3_fail wsX3_isFan := goodIn_r _ [6, 7, 8, 5, 9] (by decide +kernel) (by decide +kernel)
set_option maxRecDepth 20000 in
theorem gX3_fail_X3_isFan : GoodIn wsX3_fail (va_wsS RX3 74 yX3_isFan wsX3_isFan) := goodIn_app (goodIn_of _ (by decide +kernel)) ggX3_fail_X3_isFan
set_option maxRecDepth 20000 in
theorem ggX3_fail_X3_goes : GoodIn wsX3_fail wsX3_goes := goodIn_r _ [13, 14, 19, 20, 21, 22, 23, 24, 25, 26, 27, 28, 29, 30, 31, 32, 33, 34, 35] (by decide +kernel) (by decide +kernel)
set_option maxRecDepth 20000 in
theorem gX3_fail_X3_goes : GoodIn wsX3_fail (wsV RX3 71 RX3 yX3_goes wsX3_goes) := goodIn_app (goodIn_of _ (by decide +kernel)) ggX3_fail_X3_goes
set_option maxRecDepth 20000 in
theorem ggX3_fail_X3_running : GoodIn wsX3_fail wsX3_running := goodIn_r _ [18, 1, 19, 20, 21, 22, 23, 24, 25, 26, 27, 28, 29, 30, 31, 32, 33, 34, 35] (by decide +kernel) (by decide +kernel)
set_option maxRecDepth 20000 in
theorem gX3_fail_X3_running : GoodIn wsX3_fail (wsV RX3 77 RX3 yX3_running wsX3_running) := goodIn_app (goodIn_of _ (by decide +kernel)) ggX3_fail_X3_running
theorem dX3_fail_0 : decode cX3_fail 0 = .ok (.aload_n 0, 1) := by decide +kernel
theorem dX3_fail_1 : decode cX3_fail 1 = .ok (.iload_n 1, 1) := by decide +kernel
theorem dX3_fail_2 : decode cX3_fail 2 = .ok (.invokestatic 74, 3) := by decide +kernel
theorem dX3_fail_5 : decode cX3_fail 5 = .ok (.ifCond .ne 7, 3) := by decide +kernel
theorem dX3_fail_8 : decode cX3_fail 8 = .ok (.iconst 1, 1) := by decide +kernel
theorem dX3_fail_9 : decode cX3_fail 9 = .ok (.goto 17, 3) := by decide +kernel
theorem dX3_fail_12 : decode cX3_fail 12 = .ok (.aload_n 0, 1) := by decide +kernel
theorem dX3_fail_13 : decode cX3_fail 13 = .ok (.getfield 47, 3) := by decide +kernel
theorem dX3_fail_16 : decode cX3_fail 16 = .ok (.iload_n 1, 1) := by decide +kernel
theorem dX3_fail_17 : decode cX3_fail 17 = .ok (.baload, 1) := by decide +kernel
theorem dX3_fail_18 : decode cX3_fail 18 = .ok (.ifCond .eq 7, 3) := by decide +kernel
theorem dX3_fail_21 : decode cX3_fail 21 = .ok (.iconst 2, 1) := by decide +kernel
theorem dX3_fail_22 : decode cX3_fail 22 = .ok (.goto 4, 3) := by decide +kernel
theorem dX3_fail_25 : decode cX3_fail 25 = .ok (.iconst 0, 1) := by decide +kernel
theorem dX3_fail_26 : decode cX3_fail 26 = .ok (.invokevirtual 71, 3) := by decide +kernel
theorem dX3_fail_29 : decode cX3_fail 29 = .ok (.ifCond .ne 5, 3) := by decide +kernel
theorem dX3_fail_32 : decode cX3_fail 32 = .ok (.iconst 0, 1) := by decide +kernel
theorem dX3_fail_33 : decode cX3_fail 33 = .ok (.ireturn, 1) := by decide +kernel
theorem dX3_fail_34 : decode cX3_fail 34 = .ok (.aload_n 0, 1) := by decide +kernel
theorem dX3_fail_35 : decode cX3_fail 35 = .ok (.getfield 47, 3) := by decide +kernel
theorem dX3_fail_38 : decode cX3_fail 38 = .ok (.iload_n 1, 1) := by decide +kernel
theorem dX3_fail_39 : decode cX3_fail 39 = .ok (.iconst 1, 1) := by decide +kernel
theorem dX3_fail_40 : decode cX3_fail 40 = .ok (.bastore, 1) := by decide +kernel
theorem dX3_fail_41 : decode cX3_fail 41 = .ok (.aload_n 0, 1) := by decide +kernel
theorem dX3_fail_42 : decode cX3_fail 42 = .ok (.getfield 51, 3) := by decide +kernel
theorem dX3_fail_45 : decode cX3_fail 45 = .ok (.iload_n 1, 1) := by decide +kernel
theorem dX3_fail_46 : decode cX3_fail 46 = .ok (.iconst 0, 1) := by decide +kernel
theorem dX3_fail_47 : decode cX3_fail 47 = .ok (.iastore, 1) := by decide +kernel
theorem dX3_fail_48 : decode cX3_fail 48 = .ok (.aload_n 0, 1) := by decide +kernel
theorem dX3_fail_49 : decode cX3_fail 49 = .ok (.invokevirtual 77, 3) := by decide +kernel
theorem dX3_fail_52 : decode cX3_fail 52 = .ok (.ireturn, 1) := by decide +kernel
set_option maxRecDepth 20000 in
theorem ggX3_repair_X3_isFan : GoodIn wsX3_repair wsX3_isFan := goodIn_r _ [5, 6, 7, 4, 8] (by decide +kernel) (by decide +kernel)
set_option maxRecDepth 20000 in
theorem gX3_repair_X3_isFan : GoodIn wsX3_repair (va_wsS RX3 74 yX3_isFan wsX3_isFan) := goodIn_app (goodIn_of _ (by decide +kernel)) ggX3_repair_X3_isFan
set_option maxRecDepth 20000 in
theorem ggX3_repair_X3_goes : GoodIn wsX3_repair wsX3_goes := goodIn_r _ [12, 13, 18, 19, 20, 21, 22, 23, 24, 25, 26, 27, 28, 29, 30, 31, 32, 33, 34] (by decide +kernel) (by decide +kernel)
set_option maxRecDepth 20000 in
theorem gX3_repair_X3_goes : GoodIn wsX3_repair (wsV RX3 71 RX3 yX3_goes wsX3_goes) := goodIn_app (goodIn_of _ (by decide +kernel)) ggX3_repair_X3_goes
set_option maxRecDepth 20000 in
theorem ggX3_repair_X3_running : GoodIn wsX3_repair wsX3_running := goodIn_r _ [17, 1, 18, 19, 20, 21, 22, 23, 24, 25, 26, 27, 28, 29, 30, 31, 32, 33, 34] (by decide +kernel) (by decide +kernel)
set_option maxRecDepth 20000 in
theorem gX3_repair_X3_running : GoodIn wsX3_repair (wsV RX3 77 RX3 yX3_running wsX3_running) := goodIn_app (goodIn_of _ (by decide +kernel)) ggX3_repair_X3_running
theorem dX3_repair_0 : decode cX3_repair 0 = .ok (.aload_n 0, 1) := by decide +kernel
theorem dX3_repair_1 : decode cX3_repair 1 = .ok (.iload_n 1, 1) := by decide +kernel
theorem dX3_repair_2 : decode cX3_repair 2 = .ok (.invokestatic 74, 3) := by decide +kernel
theorem dX3_repair_5 : decode cX3_repair 5 = .ok (.ifCond .ne 7, 3) := by decide +kernel
theorem dX3_repair_8 : decode cX3_repair 8 = .ok (.iconst 1, 1) := by decide +kernel
theorem dX3_repair_9 : decode cX3_repair 9 = .ok (.goto 17, 3) := by decide +kernel
theorem dX3_repair_12 : decode cX3_repair 12 = .ok (.aload_n 0, 1) := by decide +kernel
theorem dX3_repair_13 : decode cX3_repair 13 = .ok (.getfield 47, 3) := by decide +kernel
theorem dX3_repair_16 : decode cX3_repair 16 = .ok (.iload_n 1, 1) := by decide +kernel
theorem dX3_repair_17 : decode cX3_repair 17 = .ok (.baload, 1) := by decide +kernel
theorem dX3_repair_18 : decode cX3_repair 18 = .ok (.ifCond .eq 7, 3) := by decide +kernel
theorem dX3_repair_21 : decode cX3_repair 21 = .ok (.iconst 0, 1) := by decide +kernel
theorem dX3_repair_22 : decode cX3_repair 22 = .ok (.goto 4, 3) := by decide +kernel
theorem dX3_repair_25 : decode cX3_repair 25 = .ok (.iconst 2, 1) := by decide +kernel
theorem dX3_repair_26 : decode cX3_repair 26 = .ok (.invokevirtual 71, 3) := by decide +kernel
theorem dX3_repair_29 : decode cX3_repair 29 = .ok (.ifCond .ne 5, 3) := by decide +kernel
theorem dX3_repair_32 : decode cX3_repair 32 = .ok (.iconst 0, 1) := by decide +kernel
theorem dX3_repair_33 : decode cX3_repair 33 = .ok (.ireturn, 1) := by decide +kernel
theorem dX3_repair_34 : decode cX3_repair 34 = .ok (.aload_n 0, 1) := by decide +kernel
theorem dX3_repair_35 : decode cX3_repair 35 = .ok (.getfield 47, 3) := by decide +kernel
theorem dX3_repair_38 : decode cX3_repair 38 = .ok (.iload_n 1, 1) := by decide +kernel
theorem dX3_repair_39 : decode cX3_repair 39 = .ok (.iconst 0, 1) := by decide +kernel
theorem dX3_repair_40 : decode cX3_repair 40 = .ok (.bastore, 1) := by decide +kernel
theorem dX3_repair_41 : decode cX3_repair 41 = .ok (.aload_n 0, 1) := by decide +kernel
theorem dX3_repair_42 : decode cX3_repair 42 = .ok (.invokevirtual 77, 3) := by decide +kernel
theorem dX3_repair_45 : decode cX3_repair 45 = .ok (.ireturn, 1) := by decide +kernel
theorem dX3_commandAt_0 : decode cX3_commandAt 0 = .ok (.bipush 9, 2) := by decide +kernel
theorem dX3_commandAt_2 : decode cX3_commandAt 2 = .ok (.bipush 8, 2) := by decide +kernel
theorem dX3_commandAt_4 : decode cX3_commandAt 4 = .ok (.iload_n 0, 1) := by decide +kernel
theorem dX3_commandAt_5 : decode cX3_commandAt 5 = .ok (.imul, 1) := by decide +kernel
theorem dX3_commandAt_6 : decode cX3_commandAt 6 = .ok (.iload_n 1, 1) := by decide +kernel
theorem dX3_commandAt_7 : decode cX3_commandAt 7 = .ok (.iadd, 1) := by decide +kernel
theorem dX3_commandAt_8 : decode cX3_commandAt 8 = .ok (.imul, 1) := by decide +kernel
theorem dX3_commandAt_9 : decode cX3_commandAt 9 = .ok (.iload_n 2, 1) := by decide +kernel
theorem dX3_commandAt_10 : decode cX3_commandAt 10 = .ok (.bipush 9, 2) := by decide +kernel
theorem dX3_commandAt_12 : decode cX3_commandAt 12 = .ok (.irem, 1) := by decide +kernel
theorem dX3_commandAt_13 : decode cX3_commandAt 13 = .ok (.iadd, 1) := by decide +kernel
theorem dX3_commandAt_14 : decode cX3_commandAt 14 = .ok (.ireturn, 1) := by decide +kernel
set_option maxRecDepth 20000 in
theorem ggX3_command_X3_isFan : GoodIn wsX3_command wsX3_isFan := goodIn_r _ [6, 7, 8, 5, 9] (by decide +kernel) (by decide +kernel)
set_option maxRecDepth 20000 in
theorem gX3_command_X3_isFan : GoodIn wsX3_command (va_wsS RX3 74 yX3_isFan wsX3_isFan) := goodIn_app (goodIn_of _ (by decide +kernel)) ggX3_command_X3_isFan
set_option maxRecDepth 20000 in
theorem ggX3_command_X3_goes : GoodIn wsX3_command wsX3_goes := goodIn_r _ [13, 14, 18, 19, 20, 21, 22, 23, 24, 25, 26, 27, 28, 29, 30, 31, 32, 33, 34] (by decide +kernel) (by decide +kernel)
set_option maxRecDepth 20000 in
theorem gX3_command_X3_goes : GoodIn wsX3_command (wsV RX3 71 RX3 yX3_goes wsX3_goes) := goodIn_app (goodIn_of _ (by decide +kernel)) ggX3_command_X3_goes
set_option maxRecDepth 20000 in
theorem ggX3_command_X3_commandAt : GoodIn wsX3_command wsX3_commandAt := goodIn_r _ [17] (by decide +kernel) (by decide +kernel)
set_option maxRecDepth 20000 in
theorem gX3_command_X3_commandAt : GoodIn wsX3_command (va_wsS RX3 81 yX3_commandAt wsX3_commandAt) := goodIn_app (goodIn_of _ (by decide +kernel)) ggX3_command_X3_commandAt
theorem dX3_command_0 : decode cX3_command 0 = .ok (.aload_n 0, 1) := by decide +kernel
theorem dX3_command_1 : decode cX3_command 1 = .ok (.iload_n 1, 1) := by decide +kernel
theorem dX3_command_2 : decode cX3_command 2 = .ok (.invokestatic 74, 3) := by decide +kernel
theorem dX3_command_5 : decode cX3_command 5 = .ok (.ifCond .eq 7, 3) := by decide +kernel
theorem dX3_command_8 : decode cX3_command 8 = .ok (.iconst 0, 1) := by decide +kernel
theorem dX3_command_9 : decode cX3_command 9 = .ok (.goto 4, 3) := by decide +kernel
theorem dX3_command_12 : decode cX3_command 12 = .ok (.iconst 1, 1) := by decide +kernel
theorem dX3_command_13 : decode cX3_command 13 = .ok (.invokevirtual 71, 3) := by decide +kernel
theorem dX3_command_16 : decode cX3_command 16 = .ok (.ifCond .eq 33, 3) := by decide +kernel
theorem dX3_command_19 : decode cX3_command 19 = .ok (.aload_n 0, 1) := by decide +kernel
theorem dX3_command_20 : decode cX3_command 20 = .ok (.getfield 35, 3) := by decide +kernel
theorem dX3_command_23 : decode cX3_command 23 = .ok (.iconst 0, 1) := by decide +kernel
theorem dX3_command_24 : decode cX3_command 24 = .ok (.iaload, 1) := by decide +kernel
theorem dX3_command_25 : decode cX3_command 25 = .ok (.ifCond .le 24, 3) := by decide +kernel
theorem dX3_command_28 : decode cX3_command 28 = .ok (.aload_n 0, 1) := by decide +kernel
theorem dX3_command_29 : decode cX3_command 29 = .ok (.getfield 54, 3) := by decide +kernel
theorem dX3_command_32 : decode cX3_command 32 = .ok (.iconst 0, 1) := by decide +kernel
theorem dX3_command_33 : decode cX3_command 33 = .ok (.iload_n 1, 1) := by decide +kernel
theorem dX3_command_34 : decode cX3_command 34 = .ok (.aload_n 0, 1) := by decide +kernel
theorem dX3_command_35 : decode cX3_command 35 = .ok (.getfield 35, 3) := by decide +kernel
theorem dX3_command_38 : decode cX3_command 38 = .ok (.iconst 0, 1) := by decide +kernel
theorem dX3_command_39 : decode cX3_command 39 = .ok (.iaload, 1) := by decide +kernel
theorem dX3_command_40 : decode cX3_command 40 = .ok (.iconst 1, 1) := by decide +kernel
theorem dX3_command_41 : decode cX3_command 41 = .ok (.isub, 1) := by decide +kernel
theorem dX3_command_42 : decode cX3_command 42 = .ok (.invokestatic 81, 3) := by decide +kernel
theorem dX3_command_45 : decode cX3_command 45 = .ok (.iaload, 1) := by decide +kernel
theorem dX3_command_46 : decode cX3_command 46 = .ok (.goto 4, 3) := by decide +kernel
theorem dX3_command_49 : decode cX3_command 49 = .ok (.iconst 0, 1) := by decide +kernel
theorem dX3_command_50 : decode cX3_command 50 = .ok (.ireturn, 1) := by decide +kernel
set_option maxRecDepth 20000 in
theorem ggX3_speed_X3_isFan : GoodIn wsX3_speed wsX3_isFan := goodIn_r _ [5, 6, 7, 4, 8] (by decide +kernel) (by decide +kernel)
set_option maxRecDepth 20000 in
theorem gX3_speed_X3_isFan : GoodIn wsX3_speed (va_wsS RX3 74 yX3_isFan wsX3_isFan) := goodIn_app (goodIn_of _ (by decide +kernel)) ggX3_speed_X3_isFan
set_option maxRecDepth 20000 in
theorem ggX3_speed_X3_goes : GoodIn wsX3_speed wsX3_goes := goodIn_r _ [12, 13, 14, 15, 16, 17, 18, 19, 20, 21, 22, 23, 24, 25, 26, 27, 28, 29, 30] (by decide +kernel) (by decide +kernel)
set_option maxRecDepth 20000 in
theorem gX3_speed_X3_goes : GoodIn wsX3_speed (wsV RX3 71 RX3 yX3_goes wsX3_goes) := goodIn_app (goodIn_of _ (by decide +kernel)) ggX3_speed_X3_goes
theorem dX3_speed_0 : decode cX3_speed 0 = .ok (.aload_n 0, 1) := by decide +kernel
theorem dX3_speed_1 : decode cX3_speed 1 = .ok (.iload_n 1, 1) := by decide +kernel
theorem dX3_speed_2 : decode cX3_speed 2 = .ok (.invokestatic 74, 3) := by decide +kernel
theorem dX3_speed_5 : decode cX3_speed 5 = .ok (.ifCond .eq 7, 3) := by decide +kernel
theorem dX3_speed_8 : decode cX3_speed 8 = .ok (.iconst 0, 1) := by decide +kernel
theorem dX3_speed_9 : decode cX3_speed 9 = .ok (.goto 4, 3) := by decide +kernel
theorem dX3_speed_12 : decode cX3_speed 12 = .ok (.iconst 1, 1) := by decide +kernel
theorem dX3_speed_13 : decode cX3_speed 13 = .ok (.invokevirtual 71, 3) := by decide +kernel
theorem dX3_speed_16 : decode cX3_speed 16 = .ok (.ifCond .eq 12, 3) := by decide +kernel
theorem dX3_speed_19 : decode cX3_speed 19 = .ok (.aload_n 0, 1) := by decide +kernel
theorem dX3_speed_20 : decode cX3_speed 20 = .ok (.getfield 51, 3) := by decide +kernel
theorem dX3_speed_23 : decode cX3_speed 23 = .ok (.iload_n 1, 1) := by decide +kernel
theorem dX3_speed_24 : decode cX3_speed 24 = .ok (.iaload, 1) := by decide +kernel
theorem dX3_speed_25 : decode cX3_speed 25 = .ok (.goto 4, 3) := by decide +kernel
theorem dX3_speed_28 : decode cX3_speed 28 = .ok (.iconst 0, 1) := by decide +kernel
theorem dX3_speed_29 : decode cX3_speed 29 = .ok (.ireturn, 1) := by decide +kernel
set_option maxRecDepth 20000 in
theorem ggX3_demands_X3_held : GoodIn wsX3_demands wsX3_held := goodIn_r _ [12] (by decide +kernel) (by decide +kernel)
set_option maxRecDepth 20000 in
theorem gX3_demands_X3_held : GoodIn wsX3_demands (va_wsS RX3 85 yX3_held wsX3_held) := goodIn_app (goodIn_of _ (by decide +kernel)) ggX3_demands_X3_held
set_option maxRecDepth 20000 in
theorem ggX3_demands_X3_part : GoodIn wsX3_demands wsX3_part := goodIn_r _ [15] (by decide +kernel) (by decide +kernel)
set_option maxRecDepth 20000 in
theorem gX3_demands_X3_part : GoodIn wsX3_demands (va_wsS RX3 88 yX3_part wsX3_part) := goodIn_app (goodIn_of _ (by decide +kernel)) ggX3_demands_X3_part
theorem dX3_demands_0 : decode cX3_demands 0 = .ok (.bipush 6, 2) := by decide +kernel
theorem dX3_demands_2 : decode cX3_demands 2 = .ok (.iload_n 1, 1) := by decide +kernel
theorem dX3_demands_3 : decode cX3_demands 3 = .ok (.imul, 1) := by decide +kernel
theorem dX3_demands_4 : decode cX3_demands 4 = .ok (.iload_n 2, 1) := by decide +kernel
theorem dX3_demands_5 : decode cX3_demands 5 = .ok (.iadd, 1) := by decide +kernel
theorem dX3_demands_6 : decode cX3_demands 6 = .ok (.istore_n 3, 1) := by decide +kernel
theorem dX3_demands_7 : decode cX3_demands 7 = .ok (.aload_n 0, 1) := by decide +kernel
theorem dX3_demands_8 : decode cX3_demands 8 = .ok (.getfield 38, 3) := by decide +kernel
theorem dX3_demands_11 : decode cX3_demands 11 = .ok (.iload_n 3, 1) := by decide +kernel
theorem dX3_demands_12 : decode cX3_demands 12 = .ok (.iaload, 1) := by decide +kernel
theorem dX3_demands_13 : decode cX3_demands 13 = .ok (.aload_n 0, 1) := by decide +kernel
theorem dX3_demands_14 : decode cX3_demands 14 = .ok (.getfield 13, 3) := by decide +kernel
theorem dX3_demands_17 : decode cX3_demands 17 = .ok (.iload_n 2, 1) := by decide +kernel
theorem dX3_demands_18 : decode cX3_demands 18 = .ok (.iaload, 1) := by decide +kernel
theorem dX3_demands_19 : decode cX3_demands 19 = .ok (.isub, 1) := by decide +kernel
theorem dX3_demands_20 : decode cX3_demands 20 = .ok (.istore 4, 2) := by decide +kernel
theorem dX3_demands_22 : decode cX3_demands 22 = .ok (.iconst 0, 1) := by decide +kernel
theorem dX3_demands_23 : decode cX3_demands 23 = .ok (.istore 5, 2) := by decide +kernel
theorem dX3_demands_25 : decode cX3_demands 25 = .ok (.iconst 0, 1) := by decide +kernel
theorem dX3_demands_26 : decode cX3_demands 26 = .ok (.istore 6, 2) := by decide +kernel
theorem dX3_demands_28 : decode cX3_demands 28 = .ok (.aload_n 0, 1) := by decide +kernel
theorem dX3_demands_29 : decode cX3_demands 29 = .ok (.getfield 41, 3) := by decide +kernel
theorem dX3_demands_32 : decode cX3_demands 32 = .ok (.iload_n 3, 1) := by decide +kernel
theorem dX3_demands_33 : decode cX3_demands 33 = .ok (.aload_n 0, 1) := by decide +kernel
theorem dX3_demands_34 : decode cX3_demands 34 = .ok (.getfield 41, 3) := by decide +kernel
theorem dX3_demands_37 : decode cX3_demands 37 = .ok (.iload_n 3, 1) := by decide +kernel
theorem dX3_demands_38 : decode cX3_demands 38 = .ok (.iaload, 1) := by decide +kernel
theorem dX3_demands_39 : decode cX3_demands 39 = .ok (.iload 4, 2) := by decide +kernel
theorem dX3_demands_41 : decode cX3_demands 41 = .ok (.iadd, 1) := by decide +kernel
theorem dX3_demands_42 : decode cX3_demands 42 = .ok (.sipush (-20000), 3) := by decide +kernel
theorem dX3_demands_45 : decode cX3_demands 45 = .ok (.sipush 20000, 3) := by decide +kernel
theorem dX3_demands_48 : decode cX3_demands 48 = .ok (.invokestatic 85, 3) := by decide +kernel
theorem dX3_demands_51 : decode cX3_demands 51 = .ok (.iastore, 1) := by decide +kernel
theorem dX3_demands_52 : decode cX3_demands 52 = .ok (.aload_n 0, 1) := by decide +kernel
theorem dX3_demands_53 : decode cX3_demands 53 = .ok (.getfield 19, 3) := by decide +kernel
theorem dX3_demands_56 : decode cX3_demands 56 = .ok (.iload 4, 2) := by decide +kernel
theorem dX3_demands_58 : decode cX3_demands 58 = .ok (.imul, 1) := by decide +kernel
theorem dX3_demands_59 : decode cX3_demands 59 = .ok (.aload_n 0, 1) := by decide +kernel
theorem dX3_demands_60 : decode cX3_demands 60 = .ok (.getfield 23, 3) := by decide +kernel
theorem dX3_demands_63 : decode cX3_demands 63 = .ok (.aload_n 0, 1) := by decide +kernel
theorem dX3_demands_64 : decode cX3_demands 64 = .ok (.getfield 41, 3) := by decide +kernel
theorem dX3_demands_67 : decode cX3_demands 67 = .ok (.iload_n 3, 1) := by decide +kernel
theorem dX3_demands_68 : decode cX3_demands 68 = .ok (.iaload, 1) := by decide +kernel
theorem dX3_demands_69 : decode cX3_demands 69 = .ok (.imul, 1) := by decide +kernel
theorem dX3_demands_70 : decode cX3_demands 70 = .ok (.bipush 100, 2) := by decide +kernel
theorem dX3_demands_72 : decode cX3_demands 72 = .ok (.invokestatic 88, 3) := by decide +kernel
theorem dX3_demands_75 : decode cX3_demands 75 = .ok (.iadd, 1) := by decide +kernel
theorem dX3_demands_76 : decode cX3_demands 76 = .ok (.bipush 100, 2) := by decide +kernel
theorem dX3_demands_78 : decode cX3_demands 78 = .ok (.invokestatic 88, 3) := by decide +kernel
theorem dX3_demands_81 : decode cX3_demands 81 = .ok (.iconst 0, 1) := by decide +kernel
theorem dX3_demands_82 : decode cX3_demands 82 = .ok (.bipush 100, 2) := by decide +kernel
theorem dX3_demands_84 : decode cX3_demands 84 = .ok (.invokestatic 85, 3) := by decide +kernel
theorem dX3_demands_87 : decode cX3_demands 87 = .ok (.istore 7, 2) := by decide +kernel
theorem dX3_demands_89 : decode cX3_demands 89 = .ok (.iconst 0, 1) := by decide +kernel
theorem dX3_demands_90 : decode cX3_demands 90 = .ok (.istore 8, 2) := by decide +kernel
theorem dX3_demands_92 : decode cX3_demands 92 = .ok (.iload 8, 2) := by decide +kernel
theorem dX3_demands_94 : decode cX3_demands 94 = .ok (.bipush 8, 2) := by decide +kernel
theorem dX3_demands_96 : decode cX3_demands 96 = .ok (.if_icmp .ge 62, 3) := by decide +kernel
theorem dX3_demands_99 : decode cX3_demands 99 = .ok (.iload 5, 2) := by decide +kernel
theorem dX3_demands_101 : decode cX3_demands 101 = .ok (.aload_n 0, 1) := by decide +kernel
theorem dX3_demands_102 : decode cX3_demands 102 = .ok (.getfield 16, 3) := by decide +kernel
theorem dX3_demands_105 : decode cX3_demands 105 = .ok (.bipush 6, 2) := by decide +kernel
theorem dX3_demands_107 : decode cX3_demands 107 = .ok (.iload 8, 2) := by decide +kernel
theorem dX3_demands_109 : decode cX3_demands 109 = .ok (.imul, 1) := by decide +kernel
theorem dX3_demands_110 : decode cX3_demands 110 = .ok (.iload_n 2, 1) := by decide +kernel
theorem dX3_demands_111 : decode cX3_demands 111 = .ok (.iadd, 1) := by decide +kernel
theorem dX3_demands_112 : decode cX3_demands 112 = .ok (.iaload, 1) := by decide +kernel
theorem dX3_demands_113 : decode cX3_demands 113 = .ok (.iadd, 1) := by decide +kernel
theorem dX3_demands_114 : decode cX3_demands 114 = .ok (.istore 5, 2) := by decide +kernel
theorem dX3_demands_116 : decode cX3_demands 116 = .ok (.iload 6, 2) := by decide +kernel
theorem dX3_demands_118 : decode cX3_demands 118 = .ok (.aload_n 0, 1) := by decide +kernel
theorem dX3_demands_119 : decode cX3_demands 119 = .ok (.getfield 47, 3) := by decide +kernel
theorem dX3_demands_122 : decode cX3_demands 122 = .ok (.bipush 8, 2) := by decide +kernel
theorem dX3_demands_124 : decode cX3_demands 124 = .ok (.iload_n 1, 1) := by decide +kernel
theorem dX3_demands_125 : decode cX3_demands 125 = .ok (.imul, 1) := by decide +kernel
theorem dX3_demands_126 : decode cX3_demands 126 = .ok (.iload 8, 2) := by decide +kernel
theorem dX3_demands_128 : decode cX3_demands 128 = .ok (.iadd, 1) := by decide +kernel
theorem dX3_demands_129 : decode cX3_demands 129 = .ok (.baload, 1) := by decide +kernel
theorem dX3_demands_130 : decode cX3_demands 130 = .ok (.ifCond .eq 7, 3) := by decide +kernel
theorem dX3_demands_133 : decode cX3_demands 133 = .ok (.iconst 0, 1) := by decide +kernel
theorem dX3_demands_134 : decode cX3_demands 134 = .ok (.goto 15, 3) := by decide +kernel
theorem dX3_demands_137 : decode cX3_demands 137 = .ok (.aload_n 0, 1) := by decide +kernel
theorem dX3_demands_138 : decode cX3_demands 138 = .ok (.getfield 16, 3) := by decide +kernel
theorem dX3_demands_141 : decode cX3_demands 141 = .ok (.bipush 6, 2) := by decide +kernel
theorem dX3_demands_143 : decode cX3_demands 143 = .ok (.iload 8, 2) := by decide +kernel
theorem dX3_demands_145 : decode cX3_demands 145 = .ok (.imul, 1) := by decide +kernel
theorem dX3_demands_146 : decode cX3_demands 146 = .ok (.iload_n 2, 1) := by decide +kernel
theorem dX3_demands_147 : decode cX3_demands 147 = .ok (.iadd, 1) := by decide +kernel
theorem dX3_demands_148 : decode cX3_demands 148 = .ok (.iaload, 1) := by decide +kernel
theorem dX3_demands_149 : decode cX3_demands 149 = .ok (.iadd, 1) := by decide +kernel
theorem dX3_demands_150 : decode cX3_demands 150 = .ok (.istore 6, 2) := by decide +kernel
theorem dX3_demands_152 : decode cX3_demands 152 = .ok (.iinc 8 1, 3) := by decide +kernel
theorem dX3_demands_155 : decode cX3_demands 155 = .ok (.goto (-63), 3) := by decide +kernel
theorem dX3_demands_158 : decode cX3_demands 158 = .ok (.aload_n 0, 1) := by decide +kernel
theorem dX3_demands_159 : decode cX3_demands 159 = .ok (.getfield 44, 3) := by decide +kernel
theorem dX3_demands_162 : decode cX3_demands 162 = .ok (.iload_n 3, 1) := by decide +kernel
theorem dX3_demands_163 : decode cX3_demands 163 = .ok (.iload 5, 2) := by decide +kernel
theorem dX3_demands_165 : decode cX3_demands 165 = .ok (.iload 6, 2) := by decide +kernel
theorem dX3_demands_167 : decode cX3_demands 167 = .ok (.if_icmp .ne 8, 3) := by decide +kernel
theorem dX3_demands_170 : decode cX3_demands 170 = .ok (.iload 7, 2) := by decide +kernel
theorem dX3_demands_172 : decode cX3_demands 172 = .ok (.goto 27, 3) := by decide +kernel
theorem dX3_demands_175 : decode cX3_demands 175 = .ok (.iload 6, 2) := by decide +kernel
theorem dX3_demands_177 : decode cX3_demands 177 = .ok (.ifCond .ne 8, 3) := by decide +kernel
theorem dX3_demands_180 : decode cX3_demands 180 = .ok (.bipush 100, 2) := by decide +kernel
theorem dX3_demands_182 : decode cX3_demands 182 = .ok (.goto 17, 3) := by decide +kernel
theorem dX3_demands_185 : decode cX3_demands 185 = .ok (.iload 7, 2) := by decide +kernel
theorem dX3_demands_187 : decode cX3_demands 187 = .ok (.iload 5, 2) := by decide +kernel
theorem dX3_demands_189 : decode cX3_demands 189 = .ok (.imul, 1) := by decide +kernel
theorem dX3_demands_190 : decode cX3_demands 190 = .ok (.iload 6, 2) := by decide +kernel
theorem dX3_demands_192 : decode cX3_demands 192 = .ok (.idiv, 1) := by decide +kernel
theorem dX3_demands_193 : decode cX3_demands 193 = .ok (.iconst 0, 1) := by decide +kernel
theorem dX3_demands_194 : decode cX3_demands 194 = .ok (.bipush 100, 2) := by decide +kernel
theorem dX3_demands_196 : decode cX3_demands 196 = .ok (.invokestatic 85, 3) := by decide +kernel
theorem dX3_demands_199 : decode cX3_demands 199 = .ok (.iastore, 1) := by decide +kernel
theorem dX3_demands_200 : decode cX3_demands 200 = .ok (.return_, 1) := by decide +kernel
set_option maxRecDepth 20000 in
theorem ggX3_commands_X3_commandAt : GoodIn wsX3_commands wsX3_commandAt := goodIn_r _ [8] (by decide +kernel) (by decide +kernel)
set_option maxRecDepth 20000 in
theorem gX3_commands_X3_commandAt : GoodIn wsX3_commands (va_wsS RX3 81 yX3_commandAt wsX3_commandAt) := goodIn_app (goodIn_of _ (by decide +kernel)) ggX3_commands_X3_commandAt
theorem dX3_commands_0 : decode cX3_commands 0 = .ok (.iconst 0, 1) := by decide +kernel
theorem dX3_commands_1 : decode cX3_commands 1 = .ok (.istore_n 3, 1) := by decide +kernel
theorem dX3_commands_2 : decode cX3_commands 2 = .ok (.iconst 0, 1) := by decide +kernel
theorem dX3_commands_3 : decode cX3_commands 3 = .ok (.istore 4, 2) := by decide +kernel
theorem dX3_commands_5 : decode cX3_commands 5 = .ok (.iload 4, 2) := by decide +kernel
theorem dX3_commands_7 : decode cX3_commands 7 = .ok (.bipush 6, 2) := by decide +kernel
theorem dX3_commands_9 : decode cX3_commands 9 = .ok (.if_icmp .ge 69, 3) := by decide +kernel
end
section
theorem dX3_commands_12 : decode cX3_commands 12 = .ok (.aload_n 0, 1) := by decide +kernel
theorem dX3_commands_13 : decode cX3_commands 13 = .ok (.getfield 16, 3) := by decide +kernel
theorem dX3_commands_16 : decode cX3_commands 16 = .ok (.bipush 6, 2) := by decide +kernel
theorem dX3_commands_18 : decode cX3_commands 18 = .ok (.iload_n 2, 1) := by decide +kernel
theorem dX3_commands_19 : decode cX3_commands 19 = .ok (.imul, 1) := by decide +kernel
theorem dX3_commands_20 : decode cX3_commands 20 = .ok (.iload 4, 2) := by decide +kernel
theorem dX3_commands_22 : decode cX3_commands 22 = .ok (.iadd, 1) := by decide +kernel
theorem dX3_commands_23 : decode cX3_commands 23 = .ok (.iaload, 1) := by decide +kernel
theorem dX3_commands_24 : decode cX3_commands 24 = .ok (.ifCond .le 23, 3) := by decide +kernel
theorem dX3_commands_27 : decode cX3_commands 27 = .ok (.aload_n 0, 1) := by decide +kernel
theorem dX3_commands_28 : decode cX3_commands 28 = .ok (.getfield 44, 3) := by decide +kernel
theorem dX3_commands_31 : decode cX3_commands 31 = .ok (.bipush 6, 2) := by decide +kernel
theorem dX3_commands_33 : decode cX3_commands 33 = .ok (.iload_n 1, 1) := by decide +kernel
theorem dX3_commands_34 : decode cX3_commands 34 = .ok (.imul, 1) := by decide +kernel
theorem dX3_commands_35 : decode cX3_commands 35 = .ok (.iload 4, 2) := by decide +kernel
theorem dX3_commands_37 : decode cX3_commands 37 = .ok (.iadd, 1) := by decide +kernel
theorem dX3_commands_38 : decode cX3_commands 38 = .ok (.iaload, 1) := by decide +kernel
theorem dX3_commands_39 : decode cX3_commands 39 = .ok (.iload_n 3, 1) := by decide +kernel
theorem dX3_commands_40 : decode cX3_commands 40 = .ok (.if_icmp .le 7, 3) := by decide +kernel
theorem dX3_commands_43 : decode cX3_commands 43 = .ok (.iconst 1, 1) := by decide +kernel
theorem dX3_commands_44 : decode cX3_commands 44 = .ok (.goto 4, 3) := by decide +kernel
theorem dX3_commands_47 : decode cX3_commands 47 = .ok (.iconst 0, 1) := by decide +kernel
theorem dX3_commands_48 : decode cX3_commands 48 = .ok (.istore 5, 2) := by decide +kernel
theorem dX3_commands_50 : decode cX3_commands 50 = .ok (.iload 5, 2) := by decide +kernel
theorem dX3_commands_52 : decode cX3_commands 52 = .ok (.ifCond .eq 18, 3) := by decide +kernel
theorem dX3_commands_55 : decode cX3_commands 55 = .ok (.aload_n 0, 1) := by decide +kernel
theorem dX3_commands_56 : decode cX3_commands 56 = .ok (.getfield 44, 3) := by decide +kernel
theorem dX3_commands_59 : decode cX3_commands 59 = .ok (.bipush 6, 2) := by decide +kernel
theorem dX3_commands_61 : decode cX3_commands 61 = .ok (.iload_n 1, 1) := by decide +kernel
theorem dX3_commands_62 : decode cX3_commands 62 = .ok (.imul, 1) := by decide +kernel
theorem dX3_commands_63 : decode cX3_commands 63 = .ok (.iload 4, 2) := by decide +kernel
theorem dX3_commands_65 : decode cX3_commands 65 = .ok (.iadd, 1) := by decide +kernel
theorem dX3_commands_66 : decode cX3_commands 66 = .ok (.iaload, 1) := by decide +kernel
theorem dX3_commands_67 : decode cX3_commands 67 = .ok (.goto 4, 3) := by decide +kernel
theorem dX3_commands_70 : decode cX3_commands 70 = .ok (.iload_n 3, 1) := by decide +kernel
theorem dX3_commands_71 : decode cX3_commands 71 = .ok (.istore_n 3, 1) := by decide +kernel
theorem dX3_commands_72 : decode cX3_commands 72 = .ok (.iinc 4 1, 3) := by decide +kernel
theorem dX3_commands_75 : decode cX3_commands 75 = .ok (.goto (-70), 3) := by decide +kernel
theorem dX3_commands_78 : decode cX3_commands 78 = .ok (.aload_n 0, 1) := by decide +kernel
theorem dX3_commands_79 : decode cX3_commands 79 = .ok (.getfield 54, 3) := by decide +kernel
theorem dX3_commands_82 : decode cX3_commands 82 = .ok (.iload_n 1, 1) := by decide +kernel
theorem dX3_commands_83 : decode cX3_commands 83 = .ok (.iload_n 2, 1) := by decide +kernel
theorem dX3_commands_84 : decode cX3_commands 84 = .ok (.aload_n 0, 1) := by decide +kernel
theorem dX3_commands_85 : decode cX3_commands 85 = .ok (.getfield 35, 3) := by decide +kernel
theorem dX3_commands_88 : decode cX3_commands 88 = .ok (.iload_n 1, 1) := by decide +kernel
theorem dX3_commands_89 : decode cX3_commands 89 = .ok (.iaload, 1) := by decide +kernel
theorem dX3_commands_90 : decode cX3_commands 90 = .ok (.invokestatic 81, 3) := by decide +kernel
theorem dX3_commands_93 : decode cX3_commands 93 = .ok (.iload_n 3, 1) := by decide +kernel
theorem dX3_commands_94 : decode cX3_commands 94 = .ok (.iastore, 1) := by decide +kernel
theorem dX3_commands_95 : decode cX3_commands 95 = .ok (.return_, 1) := by decide +kernel
set_option maxRecDepth 20000 in
theorem ggX3_speeds_X3_commandAt : GoodIn wsX3_speeds wsX3_commandAt := goodIn_r _ [9] (by decide +kernel) (by decide +kernel)
set_option maxRecDepth 20000 in
theorem gX3_speeds_X3_commandAt : GoodIn wsX3_speeds (va_wsS RX3 81 yX3_commandAt wsX3_commandAt) := goodIn_app (goodIn_of _ (by decide +kernel)) ggX3_speeds_X3_commandAt
theorem dX3_speeds_0 : decode cX3_speeds 0 = .ok (.aload_n 0, 1) := by decide +kernel
theorem dX3_speeds_1 : decode cX3_speeds 1 = .ok (.getfield 35, 3) := by decide +kernel
theorem dX3_speeds_4 : decode cX3_speeds 4 = .ok (.iload_n 1, 1) := by decide +kernel
theorem dX3_speeds_5 : decode cX3_speeds 5 = .ok (.iaload, 1) := by decide +kernel
theorem dX3_speeds_6 : decode cX3_speeds 6 = .ok (.aload_n 0, 1) := by decide +kernel
theorem dX3_speeds_7 : decode cX3_speeds 7 = .ok (.getfield 32, 3) := by decide +kernel
theorem dX3_speeds_10 : decode cX3_speeds 10 = .ok (.isub, 1) := by decide +kernel
theorem dX3_speeds_11 : decode cX3_speeds 11 = .ok (.istore_n 3, 1) := by decide +kernel
theorem dX3_speeds_12 : decode cX3_speeds 12 = .ok (.iload_n 3, 1) := by decide +kernel
theorem dX3_speeds_13 : decode cX3_speeds 13 = .ok (.ifCond .lt 21, 3) := by decide +kernel
theorem dX3_speeds_16 : decode cX3_speeds 16 = .ok (.aload_n 0, 1) := by decide +kernel
theorem dX3_speeds_17 : decode cX3_speeds 17 = .ok (.getfield 47, 3) := by decide +kernel
theorem dX3_speeds_20 : decode cX3_speeds 20 = .ok (.bipush 8, 2) := by decide +kernel
theorem dX3_speeds_22 : decode cX3_speeds 22 = .ok (.iload_n 1, 1) := by decide +kernel
theorem dX3_speeds_23 : decode cX3_speeds 23 = .ok (.imul, 1) := by decide +kernel
theorem dX3_speeds_24 : decode cX3_speeds 24 = .ok (.iload_n 2, 1) := by decide +kernel
theorem dX3_speeds_25 : decode cX3_speeds 25 = .ok (.iadd, 1) := by decide +kernel
theorem dX3_speeds_26 : decode cX3_speeds 26 = .ok (.baload, 1) := by decide +kernel
theorem dX3_speeds_27 : decode cX3_speeds 27 = .ok (.ifCond .ne 7, 3) := by decide +kernel
theorem dX3_speeds_30 : decode cX3_speeds 30 = .ok (.iconst 1, 1) := by decide +kernel
theorem dX3_speeds_31 : decode cX3_speeds 31 = .ok (.goto 4, 3) := by decide +kernel
theorem dX3_speeds_34 : decode cX3_speeds 34 = .ok (.iconst 0, 1) := by decide +kernel
theorem dX3_speeds_35 : decode cX3_speeds 35 = .ok (.istore 4, 2) := by decide +kernel
theorem dX3_speeds_37 : decode cX3_speeds 37 = .ok (.aload_n 0, 1) := by decide +kernel
theorem dX3_speeds_38 : decode cX3_speeds 38 = .ok (.getfield 51, 3) := by decide +kernel
theorem dX3_speeds_41 : decode cX3_speeds 41 = .ok (.bipush 8, 2) := by decide +kernel
theorem dX3_speeds_43 : decode cX3_speeds 43 = .ok (.iload_n 1, 1) := by decide +kernel
theorem dX3_speeds_44 : decode cX3_speeds 44 = .ok (.imul, 1) := by decide +kernel
theorem dX3_speeds_45 : decode cX3_speeds 45 = .ok (.iload_n 2, 1) := by decide +kernel
theorem dX3_speeds_46 : decode cX3_speeds 46 = .ok (.iadd, 1) := by decide +kernel
theorem dX3_speeds_47 : decode cX3_speeds 47 = .ok (.iload 4, 2) := by decide +kernel
theorem dX3_speeds_49 : decode cX3_speeds 49 = .ok (.ifCond .eq 17, 3) := by decide +kernel
theorem dX3_speeds_52 : decode cX3_speeds 52 = .ok (.aload_n 0, 1) := by decide +kernel
theorem dX3_speeds_53 : decode cX3_speeds 53 = .ok (.getfield 54, 3) := by decide +kernel
theorem dX3_speeds_56 : decode cX3_speeds 56 = .ok (.iload_n 1, 1) := by decide +kernel
theorem dX3_speeds_57 : decode cX3_speeds 57 = .ok (.iload_n 2, 1) := by decide +kernel
theorem dX3_speeds_58 : decode cX3_speeds 58 = .ok (.iload_n 3, 1) := by decide +kernel
theorem dX3_speeds_59 : decode cX3_speeds 59 = .ok (.invokestatic 81, 3) := by decide +kernel
theorem dX3_speeds_62 : decode cX3_speeds 62 = .ok (.iaload, 1) := by decide +kernel
theorem dX3_speeds_63 : decode cX3_speeds 63 = .ok (.goto 4, 3) := by decide +kernel
theorem dX3_speeds_66 : decode cX3_speeds 66 = .ok (.iconst 0, 1) := by decide +kernel
theorem dX3_speeds_67 : decode cX3_speeds 67 = .ok (.iastore, 1) := by decide +kernel
theorem dX3_speeds_68 : decode cX3_speeds 68 = .ok (.return_, 1) := by decide +kernel
set_option maxRecDepth 20000 in
theorem ggX3_heats_X3_part : GoodIn wsX3_heats wsX3_part := goodIn_r _ [9] (by decide +kernel) (by decide +kernel)
set_option maxRecDepth 20000 in
theorem gX3_heats_X3_part : GoodIn wsX3_heats (va_wsS RX3 88 yX3_part wsX3_part) := goodIn_app (goodIn_of _ (by decide +kernel)) ggX3_heats_X3_part
theorem dX3_heats_0 : decode cX3_heats 0 = .ok (.bipush 6, 2) := by decide +kernel
theorem dX3_heats_2 : decode cX3_heats 2 = .ok (.iload_n 1, 1) := by decide +kernel
theorem dX3_heats_3 : decode cX3_heats 3 = .ok (.imul, 1) := by decide +kernel
theorem dX3_heats_4 : decode cX3_heats 4 = .ok (.iload_n 2, 1) := by decide +kernel
theorem dX3_heats_5 : decode cX3_heats 5 = .ok (.iadd, 1) := by decide +kernel
theorem dX3_heats_6 : decode cX3_heats 6 = .ok (.istore_n 3, 1) := by decide +kernel
theorem dX3_heats_7 : decode cX3_heats 7 = .ok (.iconst 0, 1) := by decide +kernel
theorem dX3_heats_8 : decode cX3_heats 8 = .ok (.istore 4, 2) := by decide +kernel
theorem dX3_heats_10 : decode cX3_heats 10 = .ok (.iconst 0, 1) := by decide +kernel
theorem dX3_heats_11 : decode cX3_heats 11 = .ok (.istore 5, 2) := by decide +kernel
theorem dX3_heats_13 : decode cX3_heats 13 = .ok (.iload 5, 2) := by decide +kernel
theorem dX3_heats_15 : decode cX3_heats 15 = .ok (.bipush 8, 2) := by decide +kernel
theorem dX3_heats_17 : decode cX3_heats 17 = .ok (.if_icmp .ge 39, 3) := by decide +kernel
theorem dX3_heats_20 : decode cX3_heats 20 = .ok (.iload 4, 2) := by decide +kernel
theorem dX3_heats_22 : decode cX3_heats 22 = .ok (.aload_n 0, 1) := by decide +kernel
theorem dX3_heats_23 : decode cX3_heats 23 = .ok (.getfield 16, 3) := by decide +kernel
theorem dX3_heats_26 : decode cX3_heats 26 = .ok (.bipush 6, 2) := by decide +kernel
theorem dX3_heats_28 : decode cX3_heats 28 = .ok (.iload 5, 2) := by decide +kernel
theorem dX3_heats_30 : decode cX3_heats 30 = .ok (.imul, 1) := by decide +kernel
theorem dX3_heats_31 : decode cX3_heats 31 = .ok (.iload_n 2, 1) := by decide +kernel
theorem dX3_heats_32 : decode cX3_heats 32 = .ok (.iadd, 1) := by decide +kernel
theorem dX3_heats_33 : decode cX3_heats 33 = .ok (.iaload, 1) := by decide +kernel
theorem dX3_heats_34 : decode cX3_heats 34 = .ok (.aload_n 0, 1) := by decide +kernel
theorem dX3_heats_35 : decode cX3_heats 35 = .ok (.getfield 51, 3) := by decide +kernel
theorem dX3_heats_38 : decode cX3_heats 38 = .ok (.bipush 8, 2) := by decide +kernel
theorem dX3_heats_40 : decode cX3_heats 40 = .ok (.iload_n 1, 1) := by decide +kernel
theorem dX3_heats_41 : decode cX3_heats 41 = .ok (.imul, 1) := by decide +kernel
theorem dX3_heats_42 : decode cX3_heats 42 = .ok (.iload 5, 2) := by decide +kernel
theorem dX3_heats_44 : decode cX3_heats 44 = .ok (.iadd, 1) := by decide +kernel
theorem dX3_heats_45 : decode cX3_heats 45 = .ok (.iaload, 1) := by decide +kernel
theorem dX3_heats_46 : decode cX3_heats 46 = .ok (.imul, 1) := by decide +kernel
theorem dX3_heats_47 : decode cX3_heats 47 = .ok (.iadd, 1) := by decide +kernel
theorem dX3_heats_48 : decode cX3_heats 48 = .ok (.istore 4, 2) := by decide +kernel
theorem dX3_heats_50 : decode cX3_heats 50 = .ok (.iinc 5 1, 3) := by decide +kernel
theorem dX3_heats_53 : decode cX3_heats 53 = .ok (.goto (-40), 3) := by decide +kernel
theorem dX3_heats_56 : decode cX3_heats 56 = .ok (.aload_n 0, 1) := by decide +kernel
theorem dX3_heats_57 : decode cX3_heats 57 = .ok (.getfield 38, 3) := by decide +kernel
theorem dX3_heats_60 : decode cX3_heats 60 = .ok (.iload_n 3, 1) := by decide +kernel
theorem dX3_heats_61 : decode cX3_heats 61 = .ok (.dup2, 1) := by decide +kernel
theorem dX3_heats_62 : decode cX3_heats 62 = .ok (.iaload, 1) := by decide +kernel
theorem dX3_heats_63 : decode cX3_heats 63 = .ok (.aload_n 0, 1) := by decide +kernel
theorem dX3_heats_64 : decode cX3_heats 64 = .ok (.getfield 7, 3) := by decide +kernel
theorem dX3_heats_67 : decode cX3_heats 67 = .ok (.iload_n 2, 1) := by decide +kernel
theorem dX3_heats_68 : decode cX3_heats 68 = .ok (.iaload, 1) := by decide +kernel
theorem dX3_heats_69 : decode cX3_heats 69 = .ok (.aload_n 0, 1) := by decide +kernel
theorem dX3_heats_70 : decode cX3_heats 70 = .ok (.getfield 26, 3) := by decide +kernel
theorem dX3_heats_73 : decode cX3_heats 73 = .ok (.aload_n 0, 1) := by decide +kernel
theorem dX3_heats_74 : decode cX3_heats 74 = .ok (.getfield 38, 3) := by decide +kernel
theorem dX3_heats_77 : decode cX3_heats 77 = .ok (.iload_n 3, 1) := by decide +kernel
theorem dX3_heats_78 : decode cX3_heats 78 = .ok (.iaload, 1) := by decide +kernel
theorem dX3_heats_79 : decode cX3_heats 79 = .ok (.isub, 1) := by decide +kernel
theorem dX3_heats_80 : decode cX3_heats 80 = .ok (.bipush 64, 2) := by decide +kernel
theorem dX3_heats_82 : decode cX3_heats 82 = .ok (.invokestatic 88, 3) := by decide +kernel
theorem dX3_heats_85 : decode cX3_heats 85 = .ok (.iadd, 1) := by decide +kernel
theorem dX3_heats_86 : decode cX3_heats 86 = .ok (.iload 4, 2) := by decide +kernel
theorem dX3_heats_88 : decode cX3_heats 88 = .ok (.bipush 100, 2) := by decide +kernel
theorem dX3_heats_90 : decode cX3_heats 90 = .ok (.idiv, 1) := by decide +kernel
theorem dX3_heats_91 : decode cX3_heats 91 = .ok (.isub, 1) := by decide +kernel
theorem dX3_heats_92 : decode cX3_heats 92 = .ok (.iadd, 1) := by decide +kernel
theorem dX3_heats_93 : decode cX3_heats 93 = .ok (.iastore, 1) := by decide +kernel
theorem dX3_heats_94 : decode cX3_heats 94 = .ok (.return_, 1) := by decide +kernel
set_option maxRecDepth 20000 in
theorem ggX3_minute_X3_demands : GoodIn wsX3_minute wsX3_demands := goodIn_r _ [6, 7, 8, 9, 10, 11, 12, 13, 14, 15, 16, 5, 17, 18, 19, 20, 41, 42, 43, 44, 45, 46, 47, 48, 49, 50, 51, 52, 53, 54, 55, 56, 57] (by decide +kernel) (by decide +kernel)
set_option maxRecDepth 20000 in
theorem gX3_minute_X3_demands : GoodIn wsX3_minute (wsV RX3 92 RX3 yX3_demands wsX3_demands) := goodIn_app (goodIn_of _ (by decide +kernel)) ggX3_minute_X3_demands
set_option maxRecDepth 20000 in
theorem ggX3_minute_X3_commands : GoodIn wsX3_minute wsX3_commands := goodIn_r _ [24, 12, 14, 25, 1, 26, 27, 5, 28, 41, 42, 43, 44, 45, 46, 47, 48, 49, 50, 51, 52, 53, 54, 55, 56, 57] (by decide +kernel) (by decide +kernel)
set_option maxRecDepth 20000 in
theorem gX3_minute_X3_commands : GoodIn wsX3_minute (wsV RX3 95 RX3 yX3_commands wsX3_commands) := goodIn_app (goodIn_of _ (by decide +kernel)) ggX3_minute_X3_commands
set_option maxRecDepth 20000 in
theorem ggX3_minute_X3_speeds : GoodIn wsX3_minute wsX3_speeds := goodIn_r _ [32, 1, 33, 13, 34, 25, 26, 27, 5, 28, 41, 42, 43, 44, 45, 46, 47, 48, 49, 50, 51, 52, 53, 54, 55, 56, 57] (by decide +kernel) (by decide +kernel)
set_option maxRecDepth 20000 in
theorem gX3_minute_X3_speeds : GoodIn wsX3_minute (wsV RX3 97 RX3 yX3_speeds wsX3_speeds) := goodIn_app (goodIn_of _ (by decide +kernel)) ggX3_minute_X3_speeds
set_option maxRecDepth 20000 in
theorem ggX3_minute_X3_heats : GoodIn wsX3_minute wsX3_heats := goodIn_r _ [38, 12, 34, 7, 39, 40, 18, 19, 5, 20, 41, 42, 43, 44, 45, 46, 47, 48, 49, 50, 51, 52, 53, 54, 55, 56, 57] (by decide +kernel) (by decide +kernel)
set_option maxRecDepth 20000 in
theorem gX3_minute_X3_heats : GoodIn wsX3_minute (wsV RX3 99 RX3 yX3_heats wsX3_heats) := goodIn_app (goodIn_of _ (by decide +kernel)) ggX3_minute_X3_heats
theorem dX3_minute_0 : decode cX3_minute 0 = .ok (.iconst 0, 1) := by decide +kernel
theorem dX3_minute_1 : decode cX3_minute 1 = .ok (.istore_n 2, 1) := by decide +kernel
theorem dX3_minute_2 : decode cX3_minute 2 = .ok (.iload_n 2, 1) := by decide +kernel
theorem dX3_minute_3 : decode cX3_minute 3 = .ok (.bipush 6, 2) := by decide +kernel
theorem dX3_minute_5 : decode cX3_minute 5 = .ok (.if_icmp .ge 15, 3) := by decide +kernel
theorem dX3_minute_8 : decode cX3_minute 8 = .ok (.aload_n 0, 1) := by decide +kernel
theorem dX3_minute_9 : decode cX3_minute 9 = .ok (.iload_n 1, 1) := by decide +kernel
theorem dX3_minute_10 : decode cX3_minute 10 = .ok (.iload_n 2, 1) := by decide +kernel
theorem dX3_minute_11 : decode cX3_minute 11 = .ok (.invokevirtual 92, 3) := by decide +kernel
theorem dX3_minute_14 : decode cX3_minute 14 = .ok (.iinc 2 1, 3) := by decide +kernel
theorem dX3_minute_17 : decode cX3_minute 17 = .ok (.goto (-15), 3) := by decide +kernel
theorem dX3_minute_20 : decode cX3_minute 20 = .ok (.iconst 0, 1) := by decide +kernel
theorem dX3_minute_21 : decode cX3_minute 21 = .ok (.istore_n 2, 1) := by decide +kernel
theorem dX3_minute_22 : decode cX3_minute 22 = .ok (.iload_n 2, 1) := by decide +kernel
theorem dX3_minute_23 : decode cX3_minute 23 = .ok (.bipush 8, 2) := by decide +kernel
theorem dX3_minute_25 : decode cX3_minute 25 = .ok (.if_icmp .ge 21, 3) := by decide +kernel
theorem dX3_minute_28 : decode cX3_minute 28 = .ok (.aload_n 0, 1) := by decide +kernel
theorem dX3_minute_29 : decode cX3_minute 29 = .ok (.iload_n 1, 1) := by decide +kernel
theorem dX3_minute_30 : decode cX3_minute 30 = .ok (.iload_n 2, 1) := by decide +kernel
theorem dX3_minute_31 : decode cX3_minute 31 = .ok (.invokevirtual 95, 3) := by decide +kernel
theorem dX3_minute_34 : decode cX3_minute 34 = .ok (.aload_n 0, 1) := by decide +kernel
theorem dX3_minute_35 : decode cX3_minute 35 = .ok (.iload_n 1, 1) := by decide +kernel
theorem dX3_minute_36 : decode cX3_minute 36 = .ok (.iload_n 2, 1) := by decide +kernel
theorem dX3_minute_37 : decode cX3_minute 37 = .ok (.invokevirtual 97, 3) := by decide +kernel
theorem dX3_minute_40 : decode cX3_minute 40 = .ok (.iinc 2 1, 3) := by decide +kernel
theorem dX3_minute_43 : decode cX3_minute 43 = .ok (.goto (-21), 3) := by decide +kernel
theorem dX3_minute_46 : decode cX3_minute 46 = .ok (.iconst 0, 1) := by decide +kernel
theorem dX3_minute_47 : decode cX3_minute 47 = .ok (.istore_n 2, 1) := by decide +kernel
theorem dX3_minute_48 : decode cX3_minute 48 = .ok (.iload_n 2, 1) := by decide +kernel
theorem dX3_minute_49 : decode cX3_minute 49 = .ok (.bipush 6, 2) := by decide +kernel
theorem dX3_minute_51 : decode cX3_minute 51 = .ok (.if_icmp .ge 15, 3) := by decide +kernel
theorem dX3_minute_54 : decode cX3_minute 54 = .ok (.aload_n 0, 1) := by decide +kernel
theorem dX3_minute_55 : decode cX3_minute 55 = .ok (.iload_n 1, 1) := by decide +kernel
theorem dX3_minute_56 : decode cX3_minute 56 = .ok (.iload_n 2, 1) := by decide +kernel
theorem dX3_minute_57 : decode cX3_minute 57 = .ok (.invokevirtual 99, 3) := by decide +kernel
theorem dX3_minute_60 : decode cX3_minute 60 = .ok (.iinc 2 1, 3) := by decide +kernel
theorem dX3_minute_63 : decode cX3_minute 63 = .ok (.goto (-15), 3) := by decide +kernel
theorem dX3_minute_66 : decode cX3_minute 66 = .ok (.aload_n 0, 1) := by decide +kernel
theorem dX3_minute_67 : decode cX3_minute 67 = .ok (.getfield 35, 3) := by decide +kernel
theorem dX3_minute_70 : decode cX3_minute 70 = .ok (.iload_n 1, 1) := by decide +kernel
theorem dX3_minute_71 : decode cX3_minute 71 = .ok (.dup2, 1) := by decide +kernel
theorem dX3_minute_72 : decode cX3_minute 72 = .ok (.iaload, 1) := by decide +kernel
theorem dX3_minute_73 : decode cX3_minute 73 = .ok (.iconst 1, 1) := by decide +kernel
theorem dX3_minute_74 : decode cX3_minute 74 = .ok (.iadd, 1) := by decide +kernel
theorem dX3_minute_75 : decode cX3_minute 75 = .ok (.iastore, 1) := by decide +kernel
theorem dX3_minute_76 : decode cX3_minute 76 = .ok (.return_, 1) := by decide +kernel
set_option maxRecDepth 20000 in
theorem ggX3_pass_X3_isIn : GoodIn wsX3_pass wsX3_isIn := goodIn_r _ [9] (by decide +kernel) (by decide +kernel)
set_option maxRecDepth 20000 in
theorem gX3_pass_X3_isIn : GoodIn wsX3_pass (va_wsS RX3 63 yX3_isIn wsX3_isIn) := goodIn_app (goodIn_of _ (by decide +kernel)) ggX3_pass_X3_isIn
set_option maxRecDepth 20000 in
theorem ggX3_pass_X3_goes : GoodIn wsX3_pass wsX3_goes := goodIn_r _ [13, 14, 56, 57, 58, 59, 60, 61, 62, 63, 64, 65, 66, 67, 68, 69, 70, 71, 72] (by decide +kernel) (by decide +kernel)
set_option maxRecDepth 20000 in
theorem gX3_pass_X3_goes : GoodIn wsX3_pass (wsV RX3 71 RX3 yX3_goes wsX3_goes) := goodIn_app (goodIn_of _ (by decide +kernel)) ggX3_pass_X3_goes
set_option maxRecDepth 20000 in
theorem ggX3_pass_X3_minute : GoodIn wsX3_pass wsX3_minute := goodIn_r _ [18, 1, 19, 20, 21, 8, 22, 4, 23, 24, 25, 26, 27, 28, 29, 30, 31, 32, 33, 34, 35, 36, 37, 38, 39, 40, 41, 42, 43, 44, 45, 46, 47, 48, 49, 50, 51, 52, 53, 54, 55, 56, 57, 58, 59, 60, 61, 62, 63, 64, 65, 66, 67, 68, 69, 70, 71, 72] (by decide +kernel) (by decide +kernel)
set_option maxRecDepth 20000 in
theorem gX3_pass_X3_minute : GoodIn wsX3_pass (wsV RX3 103 RX3 yX3_minute wsX3_minute) := goodIn_app (goodIn_of _ (by decide +kernel)) ggX3_pass_X3_minute
theorem dX3_pass_0 : decode cX3_pass 0 = .ok (.aload_n 0, 1) := by decide +kernel
theorem dX3_pass_1 : decode cX3_pass 1 = .ok (.iload_n 1, 1) := by decide +kernel
theorem dX3_pass_2 : decode cX3_pass 2 = .ok (.iconst 1, 1) := by decide +kernel
theorem dX3_pass_3 : decode cX3_pass 3 = .ok (.sipush 300, 3) := by decide +kernel
theorem dX3_pass_6 : decode cX3_pass 6 = .ok (.invokestatic 63, 3) := by decide +kernel
theorem dX3_pass_9 : decode cX3_pass 9 = .ok (.ifCond .ne 7, 3) := by decide +kernel
theorem dX3_pass_12 : decode cX3_pass 12 = .ok (.iconst 1, 1) := by decide +kernel
theorem dX3_pass_13 : decode cX3_pass 13 = .ok (.goto 21, 3) := by decide +kernel
theorem dX3_pass_16 : decode cX3_pass 16 = .ok (.aload_n 0, 1) := by decide +kernel
theorem dX3_pass_17 : decode cX3_pass 17 = .ok (.getfield 35, 3) := by decide +kernel
theorem dX3_pass_20 : decode cX3_pass 20 = .ok (.iconst 0, 1) := by decide +kernel
theorem dX3_pass_21 : decode cX3_pass 21 = .ok (.iaload, 1) := by decide +kernel
theorem dX3_pass_22 : decode cX3_pass 22 = .ok (.iload_n 1, 1) := by decide +kernel
theorem dX3_pass_23 : decode cX3_pass 23 = .ok (.iadd, 1) := by decide +kernel
theorem dX3_pass_24 : decode cX3_pass 24 = .ok (.ldc 102, 2) := by decide +kernel
theorem dX3_pass_26 : decode cX3_pass 26 = .ok (.if_icmp .le 7, 3) := by decide +kernel
theorem dX3_pass_29 : decode cX3_pass 29 = .ok (.iconst 2, 1) := by decide +kernel
theorem dX3_pass_30 : decode cX3_pass 30 = .ok (.goto 4, 3) := by decide +kernel
theorem dX3_pass_33 : decode cX3_pass 33 = .ok (.iconst 0, 1) := by decide +kernel
theorem dX3_pass_34 : decode cX3_pass 34 = .ok (.invokevirtual 71, 3) := by decide +kernel
theorem dX3_pass_37 : decode cX3_pass 37 = .ok (.ifCond .ne 5, 3) := by decide +kernel
theorem dX3_pass_40 : decode cX3_pass 40 = .ok (.iconst 0, 1) := by decide +kernel
theorem dX3_pass_41 : decode cX3_pass 41 = .ok (.ireturn, 1) := by decide +kernel
theorem dX3_pass_42 : decode cX3_pass 42 = .ok (.iconst 0, 1) := by decide +kernel
theorem dX3_pass_43 : decode cX3_pass 43 = .ok (.istore_n 2, 1) := by decide +kernel
theorem dX3_pass_44 : decode cX3_pass 44 = .ok (.iconst 0, 1) := by decide +kernel
theorem dX3_pass_45 : decode cX3_pass 45 = .ok (.istore_n 3, 1) := by decide +kernel
theorem dX3_pass_46 : decode cX3_pass 46 = .ok (.iload_n 3, 1) := by decide +kernel
theorem dX3_pass_47 : decode cX3_pass 47 = .ok (.iload_n 1, 1) := by decide +kernel
theorem dX3_pass_48 : decode cX3_pass 48 = .ok (.if_icmp .ge 81, 3) := by decide +kernel
theorem dX3_pass_51 : decode cX3_pass 51 = .ok (.aload_n 0, 1) := by decide +kernel
theorem dX3_pass_52 : decode cX3_pass 52 = .ok (.iconst 0, 1) := by decide +kernel
theorem dX3_pass_53 : decode cX3_pass 53 = .ok (.invokevirtual 103, 3) := by decide +kernel
theorem dX3_pass_56 : decode cX3_pass 56 = .ok (.iconst 0, 1) := by decide +kernel
theorem dX3_pass_57 : decode cX3_pass 57 = .ok (.istore 4, 2) := by decide +kernel
theorem dX3_pass_59 : decode cX3_pass 59 = .ok (.iload 4, 2) := by decide +kernel
theorem dX3_pass_61 : decode cX3_pass 61 = .ok (.bipush 6, 2) := by decide +kernel
theorem dX3_pass_63 : decode cX3_pass 63 = .ok (.if_icmp .ge 60, 3) := by decide +kernel
theorem dX3_pass_66 : decode cX3_pass 66 = .ok (.aload_n 0, 1) := by decide +kernel
theorem dX3_pass_67 : decode cX3_pass 67 = .ok (.getfield 57, 3) := by decide +kernel
theorem dX3_pass_70 : decode cX3_pass 70 = .ok (.iload 4, 2) := by decide +kernel
theorem dX3_pass_72 : decode cX3_pass 72 = .ok (.dup2, 1) := by decide +kernel
theorem dX3_pass_73 : decode cX3_pass 73 = .ok (.iaload, 1) := by decide +kernel
theorem dX3_pass_74 : decode cX3_pass 74 = .ok (.aload_n 0, 1) := by decide +kernel
theorem dX3_pass_75 : decode cX3_pass 75 = .ok (.getfield 38, 3) := by decide +kernel
theorem dX3_pass_78 : decode cX3_pass 78 = .ok (.iload 4, 2) := by decide +kernel
theorem dX3_pass_80 : decode cX3_pass 80 = .ok (.iaload, 1) := by decide +kernel
theorem dX3_pass_81 : decode cX3_pass 81 = .ok (.aload_n 0, 1) := by decide +kernel
theorem dX3_pass_82 : decode cX3_pass 82 = .ok (.getfield 29, 3) := by decide +kernel
theorem dX3_pass_85 : decode cX3_pass 85 = .ok (.if_icmp .le 7, 3) := by decide +kernel
theorem dX3_pass_88 : decode cX3_pass 88 = .ok (.iconst 1, 1) := by decide +kernel
theorem dX3_pass_89 : decode cX3_pass 89 = .ok (.goto 4, 3) := by decide +kernel
theorem dX3_pass_92 : decode cX3_pass 92 = .ok (.iconst 0, 1) := by decide +kernel
theorem dX3_pass_93 : decode cX3_pass 93 = .ok (.iadd, 1) := by decide +kernel
theorem dX3_pass_94 : decode cX3_pass 94 = .ok (.iastore, 1) := by decide +kernel
theorem dX3_pass_95 : decode cX3_pass 95 = .ok (.iload_n 2, 1) := by decide +kernel
theorem dX3_pass_96 : decode cX3_pass 96 = .ok (.aload_n 0, 1) := by decide +kernel
theorem dX3_pass_97 : decode cX3_pass 97 = .ok (.getfield 38, 3) := by decide +kernel
theorem dX3_pass_100 : decode cX3_pass 100 = .ok (.iload 4, 2) := by decide +kernel
theorem dX3_pass_102 : decode cX3_pass 102 = .ok (.iaload, 1) := by decide +kernel
theorem dX3_pass_103 : decode cX3_pass 103 = .ok (.aload_n 0, 1) := by decide +kernel
theorem dX3_pass_104 : decode cX3_pass 104 = .ok (.getfield 29, 3) := by decide +kernel
theorem dX3_pass_107 : decode cX3_pass 107 = .ok (.if_icmp .le 7, 3) := by decide +kernel
theorem dX3_pass_110 : decode cX3_pass 110 = .ok (.iconst 1, 1) := by decide +kernel
theorem dX3_pass_111 : decode cX3_pass 111 = .ok (.goto 4, 3) := by decide +kernel
theorem dX3_pass_114 : decode cX3_pass 114 = .ok (.iconst 0, 1) := by decide +kernel
theorem dX3_pass_115 : decode cX3_pass 115 = .ok (.iadd, 1) := by decide +kernel
theorem dX3_pass_116 : decode cX3_pass 116 = .ok (.istore_n 2, 1) := by decide +kernel
theorem dX3_pass_117 : decode cX3_pass 117 = .ok (.iinc 4 1, 3) := by decide +kernel
theorem dX3_pass_120 : decode cX3_pass 120 = .ok (.goto (-61), 3) := by decide +kernel
theorem dX3_pass_123 : decode cX3_pass 123 = .ok (.iinc 3 1, 3) := by decide +kernel
theorem dX3_pass_126 : decode cX3_pass 126 = .ok (.goto (-80), 3) := by decide +kernel
theorem dX3_pass_129 : decode cX3_pass 129 = .ok (.iload_n 2, 1) := by decide +kernel
theorem dX3_pass_130 : decode cX3_pass 130 = .ok (.ireturn, 1) := by decide +kernel
theorem dX3_clock_0 : decode cX3_clock 0 = .ok (.aload_n 0, 1) := by decide +kernel
theorem dX3_clock_1 : decode cX3_clock 1 = .ok (.iconst 0, 1) := by decide +kernel
theorem dX3_clock_2 : decode cX3_clock 2 = .ok (.putfield 60, 3) := by decide +kernel
theorem dX3_clock_5 : decode cX3_clock 5 = .ok (.aload_n 0, 1) := by decide +kernel
theorem dX3_clock_6 : decode cX3_clock 6 = .ok (.getfield 35, 3) := by decide +kernel
theorem dX3_clock_9 : decode cX3_clock 9 = .ok (.iconst 0, 1) := by decide +kernel
theorem dX3_clock_10 : decode cX3_clock 10 = .ok (.iaload, 1) := by decide +kernel
theorem dX3_clock_11 : decode cX3_clock 11 = .ok (.ireturn, 1) := by decide +kernel
set_option maxRecDepth 20000 in
theorem ggX3_asks_X3_isZone : GoodIn wsX3_asks wsX3_isZone := goodIn_r _ [4, 5, 6, 3, 7] (by decide +kernel) (by decide +kernel)
set_option maxRecDepth 20000 in
theorem gX3_asks_X3_isZone : GoodIn wsX3_asks (va_wsS RX3 67 yX3_isZone wsX3_isZone) := goodIn_app (goodIn_of _ (by decide +kernel)) ggX3_asks_X3_isZone
set_option maxRecDepth 20000 in
theorem ggX3_asks_X3_goes : GoodIn wsX3_asks wsX3_goes := goodIn_r _ [11, 12, 13, 14, 15, 16, 17, 18, 19, 20, 21, 22, 23, 24, 25, 26, 27, 28, 29] (by decide +kernel) (by decide +kernel)
set_option maxRecDepth 20000 in
theorem gX3_asks_X3_goes : GoodIn wsX3_asks (wsV RX3 71 RX3 yX3_goes wsX3_goes) := goodIn_app (goodIn_of _ (by decide +kernel)) ggX3_asks_X3_goes
theorem dX3_asks_0 : decode cX3_asks 0 = .ok (.aload_n 0, 1) := by decide +kernel
theorem dX3_asks_1 : decode cX3_asks 1 = .ok (.iload_n 1, 1) := by decide +kernel
theorem dX3_asks_2 : decode cX3_asks 2 = .ok (.invokestatic 67, 3) := by decide +kernel
theorem dX3_asks_5 : decode cX3_asks 5 = .ok (.ifCond .eq 7, 3) := by decide +kernel
theorem dX3_asks_8 : decode cX3_asks 8 = .ok (.iconst 0, 1) := by decide +kernel
theorem dX3_asks_9 : decode cX3_asks 9 = .ok (.goto 4, 3) := by decide +kernel
theorem dX3_asks_12 : decode cX3_asks 12 = .ok (.iconst 1, 1) := by decide +kernel
theorem dX3_asks_13 : decode cX3_asks 13 = .ok (.invokevirtual 71, 3) := by decide +kernel
theorem dX3_asks_16 : decode cX3_asks 16 = .ok (.ireturn, 1) := by decide +kernel
set_option maxRecDepth 20000 in
theorem ggX3_temperature_X3_asks : GoodIn wsX3_temperature wsX3_asks := goodIn_r _ [6, 7, 8, 5, 9, 10, 11, 12, 13, 14, 15, 16, 17, 18, 19, 20, 21, 22, 23, 24, 25, 26, 27, 28, 29, 30, 31, 32, 33, 34] (by decide +kernel) (by decide +kernel)
set_option maxRecDepth 20000 in
theorem gX3_temperature_X3_asks : GoodIn wsX3_temperature (wsV RX3 107 RX3 yX3_asks wsX3_asks) := goodIn_app (goodIn_of _ (by decide +kernel)) ggX3_temperature_X3_asks
theorem dX3_temperature_0 : decode cX3_temperature 0 = .ok (.aload_n 0, 1) := by decide +kernel
theorem dX3_temperature_1 : decode cX3_temperature 1 = .ok (.iload_n 1, 1) := by decide +kernel
theorem dX3_temperature_2 : decode cX3_temperature 2 = .ok (.invokevirtual 107, 3) := by decide +kernel
theorem dX3_temperature_5 : decode cX3_temperature 5 = .ok (.ifCond .eq 12, 3) := by decide +kernel
theorem dX3_temperature_8 : decode cX3_temperature 8 = .ok (.aload_n 0, 1) := by decide +kernel
theorem dX3_temperature_9 : decode cX3_temperature 9 = .ok (.getfield 38, 3) := by decide +kernel
theorem dX3_temperature_12 : decode cX3_temperature 12 = .ok (.iload_n 1, 1) := by decide +kernel
theorem dX3_temperature_13 : decode cX3_temperature 13 = .ok (.iaload, 1) := by decide +kernel
theorem dX3_temperature_14 : decode cX3_temperature 14 = .ok (.goto 4, 3) := by decide +kernel
theorem dX3_temperature_17 : decode cX3_temperature 17 = .ok (.iconst 0, 1) := by decide +kernel
end
section
theorem dX3_temperature_18 : decode cX3_temperature 18 = .ok (.ireturn, 1) := by decide +kernel
set_option maxRecDepth 20000 in
theorem ggX3_demand_X3_asks : GoodIn wsX3_demand wsX3_asks := goodIn_r _ [6, 7, 8, 5, 9, 10, 11, 12, 13, 14, 15, 16, 17, 18, 19, 20, 21, 22, 23, 24, 25, 26, 27, 28, 29, 30, 31, 32, 33, 34] (by decide +kernel) (by decide +kernel)
set_option maxRecDepth 20000 in
theorem gX3_demand_X3_asks : GoodIn wsX3_demand (wsV RX3 107 RX3 yX3_asks wsX3_asks) := goodIn_app (goodIn_of _ (by decide +kernel)) ggX3_demand_X3_asks
theorem dX3_demand_0 : decode cX3_demand 0 = .ok (.aload_n 0, 1) := by decide +kernel
theorem dX3_demand_1 : decode cX3_demand 1 = .ok (.iload_n 1, 1) := by decide +kernel
theorem dX3_demand_2 : decode cX3_demand 2 = .ok (.invokevirtual 107, 3) := by decide +kernel
theorem dX3_demand_5 : decode cX3_demand 5 = .ok (.ifCond .eq 12, 3) := by decide +kernel
theorem dX3_demand_8 : decode cX3_demand 8 = .ok (.aload_n 0, 1) := by decide +kernel
theorem dX3_demand_9 : decode cX3_demand 9 = .ok (.getfield 44, 3) := by decide +kernel
theorem dX3_demand_12 : decode cX3_demand 12 = .ok (.iload_n 1, 1) := by decide +kernel
theorem dX3_demand_13 : decode cX3_demand 13 = .ok (.iaload, 1) := by decide +kernel
theorem dX3_demand_14 : decode cX3_demand 14 = .ok (.goto 4, 3) := by decide +kernel
theorem dX3_demand_17 : decode cX3_demand 17 = .ok (.iconst 0, 1) := by decide +kernel
theorem dX3_demand_18 : decode cX3_demand 18 = .ok (.ireturn, 1) := by decide +kernel
set_option maxRecDepth 20000 in
theorem ggX3_errors_X3_asks : GoodIn wsX3_errors wsX3_asks := goodIn_r _ [6, 7, 8, 5, 9, 10, 11, 12, 13, 14, 15, 16, 17, 18, 19, 20, 21, 22, 23, 24, 25, 26, 27, 28, 29, 30, 31, 32, 33, 34] (by decide +kernel) (by decide +kernel)
set_option maxRecDepth 20000 in
theorem gX3_errors_X3_asks : GoodIn wsX3_errors (wsV RX3 107 RX3 yX3_asks wsX3_asks) := goodIn_app (goodIn_of _ (by decide +kernel)) ggX3_errors_X3_asks
theorem dX3_errors_0 : decode cX3_errors 0 = .ok (.aload_n 0, 1) := by decide +kernel
theorem dX3_errors_1 : decode cX3_errors 1 = .ok (.iload_n 1, 1) := by decide +kernel
theorem dX3_errors_2 : decode cX3_errors 2 = .ok (.invokevirtual 107, 3) := by decide +kernel
theorem dX3_errors_5 : decode cX3_errors 5 = .ok (.ifCond .eq 12, 3) := by decide +kernel
theorem dX3_errors_8 : decode cX3_errors 8 = .ok (.aload_n 0, 1) := by decide +kernel
theorem dX3_errors_9 : decode cX3_errors 9 = .ok (.getfield 41, 3) := by decide +kernel
theorem dX3_errors_12 : decode cX3_errors 12 = .ok (.iload_n 1, 1) := by decide +kernel
theorem dX3_errors_13 : decode cX3_errors 13 = .ok (.iaload, 1) := by decide +kernel
theorem dX3_errors_14 : decode cX3_errors 14 = .ok (.goto 4, 3) := by decide +kernel
theorem dX3_errors_17 : decode cX3_errors 17 = .ok (.iconst 0, 1) := by decide +kernel
theorem dX3_errors_18 : decode cX3_errors 18 = .ok (.ireturn, 1) := by decide +kernel
set_option maxRecDepth 20000 in
theorem ggX3_hotMinutes_X3_asks : GoodIn wsX3_hotMinutes wsX3_asks := goodIn_r _ [6, 7, 8, 5, 9, 10, 11, 12, 13, 14, 15, 16, 17, 18, 19, 20, 21, 22, 23, 24, 25, 26, 27, 28, 29, 30, 31, 32, 33, 34] (by decide +kernel) (by decide +kernel)
set_option maxRecDepth 20000 in
theorem gX3_hotMinutes_X3_asks : GoodIn wsX3_hotMinutes (wsV RX3 107 RX3 yX3_asks wsX3_asks) := goodIn_app (goodIn_of _ (by decide +kernel)) ggX3_hotMinutes_X3_asks
theorem dX3_hotMinutes_0 : decode cX3_hotMinutes 0 = .ok (.aload_n 0, 1) := by decide +kernel
theorem dX3_hotMinutes_1 : decode cX3_hotMinutes 1 = .ok (.iload_n 1, 1) := by decide +kernel
theorem dX3_hotMinutes_2 : decode cX3_hotMinutes 2 = .ok (.invokevirtual 107, 3) := by decide +kernel
theorem dX3_hotMinutes_5 : decode cX3_hotMinutes 5 = .ok (.ifCond .eq 12, 3) := by decide +kernel
theorem dX3_hotMinutes_8 : decode cX3_hotMinutes 8 = .ok (.aload_n 0, 1) := by decide +kernel
theorem dX3_hotMinutes_9 : decode cX3_hotMinutes 9 = .ok (.getfield 57, 3) := by decide +kernel
theorem dX3_hotMinutes_12 : decode cX3_hotMinutes 12 = .ok (.iload_n 1, 1) := by decide +kernel
theorem dX3_hotMinutes_13 : decode cX3_hotMinutes 13 = .ok (.iaload, 1) := by decide +kernel
theorem dX3_hotMinutes_14 : decode cX3_hotMinutes 14 = .ok (.goto 4, 3) := by decide +kernel
theorem dX3_hotMinutes_17 : decode cX3_hotMinutes 17 = .ok (.iconst 0, 1) := by decide +kernel
theorem dX3_hotMinutes_18 : decode cX3_hotMinutes 18 = .ok (.ireturn, 1) := by decide +kernel
theorem dX3_hottest_0 : decode cX3_hottest 0 = .ok (.aload_n 0, 1) := by decide +kernel
theorem dX3_hottest_1 : decode cX3_hottest 1 = .ok (.iconst 0, 1) := by decide +kernel
theorem dX3_hottest_2 : decode cX3_hottest 2 = .ok (.putfield 60, 3) := by decide +kernel
theorem dX3_hottest_5 : decode cX3_hottest 5 = .ok (.iconst 0, 1) := by decide +kernel
theorem dX3_hottest_6 : decode cX3_hottest 6 = .ok (.istore_n 1, 1) := by decide +kernel
theorem dX3_hottest_7 : decode cX3_hottest 7 = .ok (.iconst 1, 1) := by decide +kernel
theorem dX3_hottest_8 : decode cX3_hottest 8 = .ok (.istore_n 2, 1) := by decide +kernel
theorem dX3_hottest_9 : decode cX3_hottest 9 = .ok (.iload_n 2, 1) := by decide +kernel
theorem dX3_hottest_10 : decode cX3_hottest 10 = .ok (.bipush 6, 2) := by decide +kernel
theorem dX3_hottest_12 : decode cX3_hottest 12 = .ok (.if_icmp .ge 30, 3) := by decide +kernel
theorem dX3_hottest_15 : decode cX3_hottest 15 = .ok (.aload_n 0, 1) := by decide +kernel
theorem dX3_hottest_16 : decode cX3_hottest 16 = .ok (.getfield 38, 3) := by decide +kernel
theorem dX3_hottest_19 : decode cX3_hottest 19 = .ok (.iload_n 2, 1) := by decide +kernel
theorem dX3_hottest_20 : decode cX3_hottest 20 = .ok (.iaload, 1) := by decide +kernel
theorem dX3_hottest_21 : decode cX3_hottest 21 = .ok (.aload_n 0, 1) := by decide +kernel
theorem dX3_hottest_22 : decode cX3_hottest 22 = .ok (.getfield 38, 3) := by decide +kernel
theorem dX3_hottest_25 : decode cX3_hottest 25 = .ok (.iload_n 1, 1) := by decide +kernel
theorem dX3_hottest_26 : decode cX3_hottest 26 = .ok (.iaload, 1) := by decide +kernel
theorem dX3_hottest_27 : decode cX3_hottest 27 = .ok (.if_icmp .le 7, 3) := by decide +kernel
theorem dX3_hottest_30 : decode cX3_hottest 30 = .ok (.iload_n 2, 1) := by decide +kernel
theorem dX3_hottest_31 : decode cX3_hottest 31 = .ok (.goto 4, 3) := by decide +kernel
theorem dX3_hottest_34 : decode cX3_hottest 34 = .ok (.iload_n 1, 1) := by decide +kernel
theorem dX3_hottest_35 : decode cX3_hottest 35 = .ok (.istore_n 1, 1) := by decide +kernel
theorem dX3_hottest_36 : decode cX3_hottest 36 = .ok (.iinc 2 1, 3) := by decide +kernel
theorem dX3_hottest_39 : decode cX3_hottest 39 = .ok (.goto (-30), 3) := by decide +kernel
theorem dX3_hottest_42 : decode cX3_hottest 42 = .ok (.iload_n 1, 1) := by decide +kernel
theorem dX3_hottest_43 : decode cX3_hottest 43 = .ok (.ireturn, 1) := by decide +kernel
theorem dX3_copies_0 : decode cX3_copies 0 = .ok (.aload_n 0, 1) := by decide +kernel
theorem dX3_copies_1 : decode cX3_copies 1 = .ok (.getfield 35, 3) := by decide +kernel
theorem dX3_copies_4 : decode cX3_copies 4 = .ok (.iconst 1, 1) := by decide +kernel
theorem dX3_copies_5 : decode cX3_copies 5 = .ok (.aload_n 0, 1) := by decide +kernel
theorem dX3_copies_6 : decode cX3_copies 6 = .ok (.getfield 35, 3) := by decide +kernel
theorem dX3_copies_9 : decode cX3_copies 9 = .ok (.iconst 0, 1) := by decide +kernel
theorem dX3_copies_10 : decode cX3_copies 10 = .ok (.iaload, 1) := by decide +kernel
theorem dX3_copies_11 : decode cX3_copies 11 = .ok (.iastore, 1) := by decide +kernel
theorem dX3_copies_12 : decode cX3_copies 12 = .ok (.iconst 0, 1) := by decide +kernel
theorem dX3_copies_13 : decode cX3_copies 13 = .ok (.istore_n 1, 1) := by decide +kernel
theorem dX3_copies_14 : decode cX3_copies 14 = .ok (.iload_n 1, 1) := by decide +kernel
theorem dX3_copies_15 : decode cX3_copies 15 = .ok (.bipush 6, 2) := by decide +kernel
theorem dX3_copies_17 : decode cX3_copies 17 = .ok (.if_icmp .ge 39, 3) := by decide +kernel
theorem dX3_copies_20 : decode cX3_copies 20 = .ok (.aload_n 0, 1) := by decide +kernel
theorem dX3_copies_21 : decode cX3_copies 21 = .ok (.getfield 38, 3) := by decide +kernel
theorem dX3_copies_24 : decode cX3_copies 24 = .ok (.bipush 6, 2) := by decide +kernel
theorem dX3_copies_26 : decode cX3_copies 26 = .ok (.iload_n 1, 1) := by decide +kernel
theorem dX3_copies_27 : decode cX3_copies 27 = .ok (.iadd, 1) := by decide +kernel
theorem dX3_copies_28 : decode cX3_copies 28 = .ok (.aload_n 0, 1) := by decide +kernel
theorem dX3_copies_29 : decode cX3_copies 29 = .ok (.getfield 38, 3) := by decide +kernel
theorem dX3_copies_32 : decode cX3_copies 32 = .ok (.iload_n 1, 1) := by decide +kernel
theorem dX3_copies_33 : decode cX3_copies 33 = .ok (.iaload, 1) := by decide +kernel
theorem dX3_copies_34 : decode cX3_copies 34 = .ok (.iastore, 1) := by decide +kernel
theorem dX3_copies_35 : decode cX3_copies 35 = .ok (.aload_n 0, 1) := by decide +kernel
theorem dX3_copies_36 : decode cX3_copies 36 = .ok (.getfield 41, 3) := by decide +kernel
theorem dX3_copies_39 : decode cX3_copies 39 = .ok (.bipush 6, 2) := by decide +kernel
theorem dX3_copies_41 : decode cX3_copies 41 = .ok (.iload_n 1, 1) := by decide +kernel
theorem dX3_copies_42 : decode cX3_copies 42 = .ok (.iadd, 1) := by decide +kernel
theorem dX3_copies_43 : decode cX3_copies 43 = .ok (.aload_n 0, 1) := by decide +kernel
theorem dX3_copies_44 : decode cX3_copies 44 = .ok (.getfield 41, 3) := by decide +kernel
theorem dX3_copies_47 : decode cX3_copies 47 = .ok (.iload_n 1, 1) := by decide +kernel
theorem dX3_copies_48 : decode cX3_copies 48 = .ok (.iaload, 1) := by decide +kernel
theorem dX3_copies_49 : decode cX3_copies 49 = .ok (.iastore, 1) := by decide +kernel
theorem dX3_copies_50 : decode cX3_copies 50 = .ok (.iinc 1 1, 3) := by decide +kernel
theorem dX3_copies_53 : decode cX3_copies 53 = .ok (.goto (-39), 3) := by decide +kernel
theorem dX3_copies_56 : decode cX3_copies 56 = .ok (.iconst 0, 1) := by decide +kernel
theorem dX3_copies_57 : decode cX3_copies 57 = .ok (.istore_n 1, 1) := by decide +kernel
theorem dX3_copies_58 : decode cX3_copies 58 = .ok (.iload_n 1, 1) := by decide +kernel
theorem dX3_copies_59 : decode cX3_copies 59 = .ok (.bipush 8, 2) := by decide +kernel
theorem dX3_copies_61 : decode cX3_copies 61 = .ok (.if_icmp .ge 24, 3) := by decide +kernel
theorem dX3_copies_64 : decode cX3_copies 64 = .ok (.aload_n 0, 1) := by decide +kernel
theorem dX3_copies_65 : decode cX3_copies 65 = .ok (.getfield 47, 3) := by decide +kernel
theorem dX3_copies_68 : decode cX3_copies 68 = .ok (.bipush 8, 2) := by decide +kernel
theorem dX3_copies_70 : decode cX3_copies 70 = .ok (.iload_n 1, 1) := by decide +kernel
theorem dX3_copies_71 : decode cX3_copies 71 = .ok (.iadd, 1) := by decide +kernel
theorem dX3_copies_72 : decode cX3_copies 72 = .ok (.aload_n 0, 1) := by decide +kernel
theorem dX3_copies_73 : decode cX3_copies 73 = .ok (.getfield 47, 3) := by decide +kernel
theorem dX3_copies_76 : decode cX3_copies 76 = .ok (.iload_n 1, 1) := by decide +kernel
theorem dX3_copies_77 : decode cX3_copies 77 = .ok (.baload, 1) := by decide +kernel
theorem dX3_copies_78 : decode cX3_copies 78 = .ok (.bastore, 1) := by decide +kernel
theorem dX3_copies_79 : decode cX3_copies 79 = .ok (.iinc 1 1, 3) := by decide +kernel
theorem dX3_copies_82 : decode cX3_copies 82 = .ok (.goto (-24), 3) := by decide +kernel
theorem dX3_copies_85 : decode cX3_copies 85 = .ok (.iconst 0, 1) := by decide +kernel
theorem dX3_copies_86 : decode cX3_copies 86 = .ok (.istore_n 1, 1) := by decide +kernel
theorem dX3_copies_87 : decode cX3_copies 87 = .ok (.iload_n 1, 1) := by decide +kernel
theorem dX3_copies_88 : decode cX3_copies 88 = .ok (.bipush 72, 2) := by decide +kernel
theorem dX3_copies_90 : decode cX3_copies 90 = .ok (.if_icmp .ge 24, 3) := by decide +kernel
theorem dX3_copies_93 : decode cX3_copies 93 = .ok (.aload_n 0, 1) := by decide +kernel
theorem dX3_copies_94 : decode cX3_copies 94 = .ok (.getfield 54, 3) := by decide +kernel
theorem dX3_copies_97 : decode cX3_copies 97 = .ok (.bipush 72, 2) := by decide +kernel
theorem dX3_copies_99 : decode cX3_copies 99 = .ok (.iload_n 1, 1) := by decide +kernel
theorem dX3_copies_100 : decode cX3_copies 100 = .ok (.iadd, 1) := by decide +kernel
theorem dX3_copies_101 : decode cX3_copies 101 = .ok (.aload_n 0, 1) := by decide +kernel
theorem dX3_copies_102 : decode cX3_copies 102 = .ok (.getfield 54, 3) := by decide +kernel
theorem dX3_copies_105 : decode cX3_copies 105 = .ok (.iload_n 1, 1) := by decide +kernel
theorem dX3_copies_106 : decode cX3_copies 106 = .ok (.iaload, 1) := by decide +kernel
theorem dX3_copies_107 : decode cX3_copies 107 = .ok (.iastore, 1) := by decide +kernel
theorem dX3_copies_108 : decode cX3_copies 108 = .ok (.iinc 1 1, 3) := by decide +kernel
theorem dX3_copies_111 : decode cX3_copies 111 = .ok (.goto (-24), 3) := by decide +kernel
theorem dX3_copies_114 : decode cX3_copies 114 = .ok (.return_, 1) := by decide +kernel
set_option maxRecDepth 20000 in
theorem ggX3_greatest_X3_copies : GoodIn wsX3_greatest wsX3_copies := goodIn_r _ [7, 8, 2, 9, 1, 10, 49, 50, 51, 52, 53, 54, 55, 56, 57, 58, 59, 60, 61, 62, 63, 64, 65] (by decide +kernel) (by decide +kernel)
set_option maxRecDepth 20000 in
theorem gX3_greatest_X3_copies : GoodIn wsX3_greatest (wsV RX3 110 RX3 yX3_copies wsX3_copies) := goodIn_app (goodIn_of _ (by decide +kernel)) ggX3_greatest_X3_copies
set_option maxRecDepth 20000 in
theorem ggX3_greatest_X3_minute : GoodIn wsX3_greatest wsX3_minute := goodIn_r _ [14, 8, 15, 16, 17, 6, 18, 2, 19, 9, 20, 21, 22, 1, 23, 24, 25, 26, 27, 28, 29, 30, 31, 32, 33, 10, 34, 35, 36, 37, 38, 39, 40, 41, 42, 43, 44, 45, 46, 47, 48, 49, 50, 51, 52, 53, 54, 55, 56, 57, 58, 59, 60, 61, 62, 63, 64, 65] (by decide +kernel) (by decide +kernel)
set_option maxRecDepth 20000 in
theorem gX3_greatest_X3_minute : GoodIn wsX3_greatest (wsV RX3 103 RX3 yX3_minute wsX3_minute) := goodIn_app (goodIn_of _ (by decide +kernel)) ggX3_greatest_X3_minute
theorem dX3_greatest_0 : decode cX3_greatest 0 = .ok (.aload_n 0, 1) := by decide +kernel
theorem dX3_greatest_1 : decode cX3_greatest 1 = .ok (.invokevirtual 110, 3) := by decide +kernel
theorem dX3_greatest_4 : decode cX3_greatest 4 = .ok (.iload_n 3, 1) := by decide +kernel
theorem dX3_greatest_5 : decode cX3_greatest 5 = .ok (.iconst (-1), 1) := by decide +kernel
theorem dX3_greatest_6 : decode cX3_greatest 6 = .ok (.if_icmp .eq 13, 3) := by decide +kernel
theorem dX3_greatest_9 : decode cX3_greatest 9 = .ok (.aload_n 0, 1) := by decide +kernel
theorem dX3_greatest_10 : decode cX3_greatest 10 = .ok (.getfield 47, 3) := by decide +kernel
theorem dX3_greatest_13 : decode cX3_greatest 13 = .ok (.bipush 8, 2) := by decide +kernel
theorem dX3_greatest_15 : decode cX3_greatest 15 = .ok (.iload_n 3, 1) := by decide +kernel
theorem dX3_greatest_16 : decode cX3_greatest 16 = .ok (.iadd, 1) := by decide +kernel
theorem dX3_greatest_17 : decode cX3_greatest 17 = .ok (.iconst 1, 1) := by decide +kernel
theorem dX3_greatest_18 : decode cX3_greatest 18 = .ok (.bastore, 1) := by decide +kernel
theorem dX3_greatest_19 : decode cX3_greatest 19 = .ok (.aload_n 0, 1) := by decide +kernel
theorem dX3_greatest_20 : decode cX3_greatest 20 = .ok (.iconst 1, 1) := by decide +kernel
theorem dX3_greatest_21 : decode cX3_greatest 21 = .ok (.invokevirtual 103, 3) := by decide +kernel
theorem dX3_greatest_24 : decode cX3_greatest 24 = .ok (.aload_n 0, 1) := by decide +kernel
theorem dX3_greatest_25 : decode cX3_greatest 25 = .ok (.getfield 38, 3) := by decide +kernel
theorem dX3_greatest_28 : decode cX3_greatest 28 = .ok (.bipush 6, 2) := by decide +kernel
theorem dX3_greatest_30 : decode cX3_greatest 30 = .ok (.iload_n 1, 1) := by decide +kernel
theorem dX3_greatest_31 : decode cX3_greatest 31 = .ok (.iadd, 1) := by decide +kernel
theorem dX3_greatest_32 : decode cX3_greatest 32 = .ok (.iaload, 1) := by decide +kernel
theorem dX3_greatest_33 : decode cX3_greatest 33 = .ok (.istore 4, 2) := by decide +kernel
theorem dX3_greatest_35 : decode cX3_greatest 35 = .ok (.iconst 1, 1) := by decide +kernel
theorem dX3_greatest_36 : decode cX3_greatest 36 = .ok (.istore 5, 2) := by decide +kernel
theorem dX3_greatest_38 : decode cX3_greatest 38 = .ok (.iload 5, 2) := by decide +kernel
theorem dX3_greatest_40 : decode cX3_greatest 40 = .ok (.iload_n 2, 1) := by decide +kernel
theorem dX3_greatest_41 : decode cX3_greatest 41 = .ok (.if_icmp .ge 44, 3) := by decide +kernel
theorem dX3_greatest_44 : decode cX3_greatest 44 = .ok (.aload_n 0, 1) := by decide +kernel
theorem dX3_greatest_45 : decode cX3_greatest 45 = .ok (.iconst 1, 1) := by decide +kernel
theorem dX3_greatest_46 : decode cX3_greatest 46 = .ok (.invokevirtual 103, 3) := by decide +kernel
theorem dX3_greatest_49 : decode cX3_greatest 49 = .ok (.aload_n 0, 1) := by decide +kernel
theorem dX3_greatest_50 : decode cX3_greatest 50 = .ok (.getfield 38, 3) := by decide +kernel
theorem dX3_greatest_53 : decode cX3_greatest 53 = .ok (.bipush 6, 2) := by decide +kernel
theorem dX3_greatest_55 : decode cX3_greatest 55 = .ok (.iload_n 1, 1) := by decide +kernel
theorem dX3_greatest_56 : decode cX3_greatest 56 = .ok (.iadd, 1) := by decide +kernel
theorem dX3_greatest_57 : decode cX3_greatest 57 = .ok (.iaload, 1) := by decide +kernel
theorem dX3_greatest_58 : decode cX3_greatest 58 = .ok (.iload 4, 2) := by decide +kernel
theorem dX3_greatest_60 : decode cX3_greatest 60 = .ok (.if_icmp .le 15, 3) := by decide +kernel
theorem dX3_greatest_63 : decode cX3_greatest 63 = .ok (.aload_n 0, 1) := by decide +kernel
theorem dX3_greatest_64 : decode cX3_greatest 64 = .ok (.getfield 38, 3) := by decide +kernel
theorem dX3_greatest_67 : decode cX3_greatest 67 = .ok (.bipush 6, 2) := by decide +kernel
theorem dX3_greatest_69 : decode cX3_greatest 69 = .ok (.iload_n 1, 1) := by decide +kernel
theorem dX3_greatest_70 : decode cX3_greatest 70 = .ok (.iadd, 1) := by decide +kernel
theorem dX3_greatest_71 : decode cX3_greatest 71 = .ok (.iaload, 1) := by decide +kernel
theorem dX3_greatest_72 : decode cX3_greatest 72 = .ok (.goto 5, 3) := by decide +kernel
theorem dX3_greatest_75 : decode cX3_greatest 75 = .ok (.iload 4, 2) := by decide +kernel
theorem dX3_greatest_77 : decode cX3_greatest 77 = .ok (.istore 4, 2) := by decide +kernel
theorem dX3_greatest_79 : decode cX3_greatest 79 = .ok (.iinc 5 1, 3) := by decide +kernel
theorem dX3_greatest_82 : decode cX3_greatest 82 = .ok (.goto (-44), 3) := by decide +kernel
theorem dX3_greatest_85 : decode cX3_greatest 85 = .ok (.iload 4, 2) := by decide +kernel
theorem dX3_greatest_87 : decode cX3_greatest 87 = .ok (.ireturn, 1) := by decide +kernel
set_option maxRecDepth 20000 in
theorem ggX3_asksIf_X3_isZone : GoodIn wsX3_asksIf wsX3_isZone := goodIn_r _ [4, 5, 6, 3, 7] (by decide +kernel) (by decide +kernel)
set_option maxRecDepth 20000 in
theorem gX3_asksIf_X3_isZone : GoodIn wsX3_asksIf (va_wsS RX3 67 yX3_isZone wsX3_isZone) := goodIn_app (goodIn_of _ (by decide +kernel)) ggX3_asksIf_X3_isZone
set_option maxRecDepth 20000 in
theorem ggX3_asksIf_X3_isIn : GoodIn wsX3_asksIf wsX3_isIn := goodIn_r _ [7] (by decide +kernel) (by decide +kernel)
set_option maxRecDepth 20000 in
theorem gX3_asksIf_X3_isIn : GoodIn wsX3_asksIf (va_wsS RX3 63 yX3_isIn wsX3_isIn) := goodIn_app (goodIn_of _ (by decide +kernel)) ggX3_asksIf_X3_isIn
set_option maxRecDepth 20000 in
theorem ggX3_asksIf_X3_goes : GoodIn wsX3_asksIf wsX3_goes := goodIn_r _ [11, 12, 13, 14, 15, 16, 17, 18, 19, 20, 21, 22, 23, 24, 25, 26, 27, 28, 29] (by decide +kernel) (by decide +kernel)
set_option maxRecDepth 20000 in
theorem gX3_asksIf_X3_goes : GoodIn wsX3_asksIf (wsV RX3 71 RX3 yX3_goes wsX3_goes) := goodIn_app (goodIn_of _ (by decide +kernel)) ggX3_asksIf_X3_goes
theorem dX3_asksIf_0 : decode cX3_asksIf 0 = .ok (.aload_n 0, 1) := by decide +kernel
theorem dX3_asksIf_1 : decode cX3_asksIf 1 = .ok (.iload_n 1, 1) := by decide +kernel
theorem dX3_asksIf_2 : decode cX3_asksIf 2 = .ok (.invokestatic 67, 3) := by decide +kernel
theorem dX3_asksIf_5 : decode cX3_asksIf 5 = .ok (.ifCond .eq 17, 3) := by decide +kernel
theorem dX3_asksIf_8 : decode cX3_asksIf 8 = .ok (.iload_n 2, 1) := by decide +kernel
theorem dX3_asksIf_9 : decode cX3_asksIf 9 = .ok (.iconst 1, 1) := by decide +kernel
theorem dX3_asksIf_10 : decode cX3_asksIf 10 = .ok (.bipush 60, 2) := by decide +kernel
theorem dX3_asksIf_12 : decode cX3_asksIf 12 = .ok (.invokestatic 63, 3) := by decide +kernel
theorem dX3_asksIf_15 : decode cX3_asksIf 15 = .ok (.ifCond .eq 7, 3) := by decide +kernel
theorem dX3_asksIf_18 : decode cX3_asksIf 18 = .ok (.iconst 0, 1) := by decide +kernel
theorem dX3_asksIf_19 : decode cX3_asksIf 19 = .ok (.goto 4, 3) := by decide +kernel
theorem dX3_asksIf_22 : decode cX3_asksIf 22 = .ok (.iconst 1, 1) := by decide +kernel
theorem dX3_asksIf_23 : decode cX3_asksIf 23 = .ok (.invokevirtual 71, 3) := by decide +kernel
theorem dX3_asksIf_26 : decode cX3_asksIf 26 = .ok (.ireturn, 1) := by decide +kernel
set_option maxRecDepth 20000 in
theorem ggX3_expected_X3_asksIf : GoodIn wsX3_expected wsX3_asksIf := goodIn_r _ [5, 6, 7, 4, 8, 9, 10, 11, 12, 13, 14, 15, 16, 68, 69, 70, 71, 72, 73, 74, 75, 76, 77, 78, 79, 80, 81, 82, 83, 84] (by decide +kernel) (by decide +kernel)
set_option maxRecDepth 20000 in
theorem gX3_expected_X3_asksIf : GoodIn wsX3_expected (wsV RX3 113 RX3 yX3_asksIf wsX3_asksIf) := goodIn_app (goodIn_of _ (by decide +kernel)) ggX3_expected_X3_asksIf
set_option maxRecDepth 20000 in
theorem ggX3_expected_X3_greatest : GoodIn wsX3_expected wsX3_greatest := goodIn_r _ [20, 21, 22, 23, 24, 25, 4, 26, 27, 28, 29, 30, 31, 32, 33, 34, 35, 36, 37, 38, 39, 40, 41, 42, 43, 44, 45, 46, 47, 48, 49, 50, 51, 52, 53, 54, 55, 56, 57, 58, 59, 60, 61, 62, 63, 64, 65, 66, 67, 68, 69, 70, 71, 72, 73, 74, 75, 76, 77, 78, 79, 80, 81, 82, 83, 84] (by decide +kernel) (by decide +kernel)
set_option maxRecDepth 20000 in
theorem gX3_expected_X3_greatest : GoodIn wsX3_expected (wsV RX3 117 RX3 yX3_greatest wsX3_greatest) := goodIn_app (goodIn_of _ (by decide +kernel)) ggX3_expected_X3_greatest
theorem dX3_expected_0 : decode cX3_expected 0 = .ok (.aload_n 0, 1) := by decide +kernel
theorem dX3_expected_1 : decode cX3_expected 1 = .ok (.iload_n 1, 1) := by decide +kernel
theorem dX3_expected_2 : decode cX3_expected 2 = .ok (.iload_n 2, 1) := by decide +kernel
theorem dX3_expected_3 : decode cX3_expected 3 = .ok (.invokevirtual 113, 3) := by decide +kernel
theorem dX3_expected_6 : decode cX3_expected 6 = .ok (.ifCond .eq 13, 3) := by decide +kernel
theorem dX3_expected_9 : decode cX3_expected 9 = .ok (.aload_n 0, 1) := by decide +kernel
theorem dX3_expected_10 : decode cX3_expected 10 = .ok (.iload_n 1, 1) := by decide +kernel
theorem dX3_expected_11 : decode cX3_expected 11 = .ok (.iload_n 2, 1) := by decide +kernel
theorem dX3_expected_12 : decode cX3_expected 12 = .ok (.iconst (-1), 1) := by decide +kernel
theorem dX3_expected_13 : decode cX3_expected 13 = .ok (.invokevirtual 117, 3) := by decide +kernel
theorem dX3_expected_16 : decode cX3_expected 16 = .ok (.goto 4, 3) := by decide +kernel
theorem dX3_expected_19 : decode cX3_expected 19 = .ok (.iconst 0, 1) := by decide +kernel
theorem dX3_expected_20 : decode cX3_expected 20 = .ok (.ireturn, 1) := by decide +kernel
set_option maxRecDepth 20000 in
theorem ggX3_worst_X3_greatest : GoodIn wsX3_worst wsX3_greatest := goodIn_r _ [6, 1, 7, 8, 9, 10, 5, 11, 12, 13, 14, 15, 16, 17, 18, 19, 20, 21, 22, 23, 24, 25, 26, 27, 28, 29, 30, 31, 32, 33, 34, 35, 36, 37, 38, 39, 40, 41, 42, 43, 44, 45, 46, 47, 48, 49, 50, 51, 52, 53, 54, 55, 56, 57, 58, 59, 60, 61, 62, 63, 64, 65, 66, 67, 68, 69] (by decide +kernel) (by decide +kernel)
set_option maxRecDepth 20000 in
theorem gX3_worst_X3_greatest : GoodIn wsX3_worst (wsV RX3 117 RX3 yX3_greatest wsX3_greatest) := goodIn_app (goodIn_of _ (by decide +kernel)) ggX3_worst_X3_greatest
theorem dX3_worst_0 : decode cX3_worst 0 = .ok (.iconst (-1), 1) := by decide +kernel
theorem dX3_worst_1 : decode cX3_worst 1 = .ok (.istore_n 3, 1) := by decide +kernel
theorem dX3_worst_2 : decode cX3_worst 2 = .ok (.iconst 0, 1) := by decide +kernel
theorem dX3_worst_3 : decode cX3_worst 3 = .ok (.istore 4, 2) := by decide +kernel
theorem dX3_worst_5 : decode cX3_worst 5 = .ok (.iconst 0, 1) := by decide +kernel
theorem dX3_worst_6 : decode cX3_worst 6 = .ok (.istore 5, 2) := by decide +kernel
theorem dX3_worst_8 : decode cX3_worst 8 = .ok (.iload 5, 2) := by decide +kernel
theorem dX3_worst_10 : decode cX3_worst 10 = .ok (.bipush 8, 2) := by decide +kernel
theorem dX3_worst_12 : decode cX3_worst 12 = .ok (.if_icmp .ge 88, 3) := by decide +kernel
theorem dX3_worst_15 : decode cX3_worst 15 = .ok (.aload_n 0, 1) := by decide +kernel
theorem dX3_worst_16 : decode cX3_worst 16 = .ok (.getfield 47, 3) := by decide +kernel
theorem dX3_worst_19 : decode cX3_worst 19 = .ok (.iload 5, 2) := by decide +kernel
theorem dX3_worst_21 : decode cX3_worst 21 = .ok (.baload, 1) := by decide +kernel
theorem dX3_worst_22 : decode cX3_worst 22 = .ok (.ifCond .eq 7, 3) := by decide +kernel
theorem dX3_worst_25 : decode cX3_worst 25 = .ok (.iconst 0, 1) := by decide +kernel
theorem dX3_worst_26 : decode cX3_worst 26 = .ok (.goto 11, 3) := by decide +kernel
theorem dX3_worst_29 : decode cX3_worst 29 = .ok (.aload_n 0, 1) := by decide +kernel
theorem dX3_worst_30 : decode cX3_worst 30 = .ok (.iload_n 1, 1) := by decide +kernel
theorem dX3_worst_31 : decode cX3_worst 31 = .ok (.iload_n 2, 1) := by decide +kernel
theorem dX3_worst_32 : decode cX3_worst 32 = .ok (.iload 5, 2) := by decide +kernel
theorem dX3_worst_34 : decode cX3_worst 34 = .ok (.invokevirtual 117, 3) := by decide +kernel
theorem dX3_worst_37 : decode cX3_worst 37 = .ok (.istore 6, 2) := by decide +kernel
theorem dX3_worst_39 : decode cX3_worst 39 = .ok (.aload_n 0, 1) := by decide +kernel
theorem dX3_worst_40 : decode cX3_worst 40 = .ok (.getfield 47, 3) := by decide +kernel
theorem dX3_worst_43 : decode cX3_worst 43 = .ok (.iload 5, 2) := by decide +kernel
theorem dX3_worst_45 : decode cX3_worst 45 = .ok (.baload, 1) := by decide +kernel
theorem dX3_worst_46 : decode cX3_worst 46 = .ok (.ifCond .ne 19, 3) := by decide +kernel
theorem dX3_worst_49 : decode cX3_worst 49 = .ok (.iload_n 3, 1) := by decide +kernel
theorem dX3_worst_50 : decode cX3_worst 50 = .ok (.iconst (-1), 1) := by decide +kernel
theorem dX3_worst_51 : decode cX3_worst 51 = .ok (.if_icmp .eq 10, 3) := by decide +kernel
theorem dX3_worst_54 : decode cX3_worst 54 = .ok (.iload 6, 2) := by decide +kernel
theorem dX3_worst_56 : decode cX3_worst 56 = .ok (.iload 4, 2) := by decide +kernel
theorem dX3_worst_58 : decode cX3_worst 58 = .ok (.if_icmp .le 7, 3) := by decide +kernel
theorem dX3_worst_61 : decode cX3_worst 61 = .ok (.iconst 1, 1) := by decide +kernel
theorem dX3_worst_62 : decode cX3_worst 62 = .ok (.goto 4, 3) := by decide +kernel
theorem dX3_worst_65 : decode cX3_worst 65 = .ok (.iconst 0, 1) := by decide +kernel
theorem dX3_worst_66 : decode cX3_worst 66 = .ok (.istore 7, 2) := by decide +kernel
theorem dX3_worst_68 : decode cX3_worst 68 = .ok (.iload 7, 2) := by decide +kernel
theorem dX3_worst_70 : decode cX3_worst 70 = .ok (.ifCond .eq 8, 3) := by decide +kernel
theorem dX3_worst_73 : decode cX3_worst 73 = .ok (.iload 5, 2) := by decide +kernel
theorem dX3_worst_75 : decode cX3_worst 75 = .ok (.goto 4, 3) := by decide +kernel
theorem dX3_worst_78 : decode cX3_worst 78 = .ok (.iload_n 3, 1) := by decide +kernel
theorem dX3_worst_79 : decode cX3_worst 79 = .ok (.istore_n 3, 1) := by decide +kernel
theorem dX3_worst_80 : decode cX3_worst 80 = .ok (.iload 7, 2) := by decide +kernel
theorem dX3_worst_82 : decode cX3_worst 82 = .ok (.ifCond .eq 8, 3) := by decide +kernel
theorem dX3_worst_85 : decode cX3_worst 85 = .ok (.iload 6, 2) := by decide +kernel
theorem dX3_worst_87 : decode cX3_worst 87 = .ok (.goto 5, 3) := by decide +kernel
theorem dX3_worst_90 : decode cX3_worst 90 = .ok (.iload 4, 2) := by decide +kernel
theorem dX3_worst_92 : decode cX3_worst 92 = .ok (.istore 4, 2) := by decide +kernel
theorem dX3_worst_94 : decode cX3_worst 94 = .ok (.iinc 5 1, 3) := by decide +kernel
theorem dX3_worst_97 : decode cX3_worst 97 = .ok (.goto (-89), 3) := by decide +kernel
theorem dX3_worst_100 : decode cX3_worst 100 = .ok (.iload_n 3, 1) := by decide +kernel
theorem dX3_worst_101 : decode cX3_worst 101 = .ok (.ireturn, 1) := by decide +kernel
set_option maxRecDepth 20000 in
theorem ggX3_critical_X3_asksIf : GoodIn wsX3_critical wsX3_asksIf := goodIn_r _ [5, 6, 7, 4, 8, 9, 10, 11, 12, 13, 14, 15, 16, 72, 73, 74, 75, 76, 77, 78, 79, 80, 81, 82, 83, 84, 85, 86, 87, 88] (by decide +kernel) (by decide +kernel)
set_option maxRecDepth 20000 in
theorem gX3_critical_X3_asksIf : GoodIn wsX3_critical (wsV RX3 113 RX3 yX3_asksIf wsX3_asksIf) := goodIn_app (goodIn_of _ (by decide +kernel)) ggX3_critical_X3_asksIf
set_option maxRecDepth 20000 in
theorem ggX3_critical_X3_worst : GoodIn wsX3_critical wsX3_worst := goodIn_r _ [20, 21, 22, 23, 24, 4, 25, 26, 27, 28, 29, 30, 31, 32, 33, 34, 35, 36, 37, 38, 39, 40, 41, 42, 43, 44, 45, 46, 47, 48, 49, 50, 51, 52, 53, 54, 55, 56, 57, 58, 59, 60, 61, 62, 63, 64, 65, 66, 67, 68, 69, 70, 71, 72, 73, 74, 75, 76, 77, 78, 79, 80, 81, 82, 83, 84, 85, 86, 87, 88] (by decide +kernel) (by decide +kernel)
set_option maxRecDepth 20000 in
theorem gX3_critical_X3_worst : GoodIn wsX3_critical (wsV RX3 120 RX3 yX3_worst wsX3_worst) := goodIn_app (goodIn_of _ (by decide +kernel)) ggX3_critical_X3_worst
theorem dX3_critical_0 : decode cX3_critical 0 = .ok (.aload_n 0, 1) := by decide +kernel
theorem dX3_critical_1 : decode cX3_critical 1 = .ok (.iload_n 1, 1) := by decide +kernel
theorem dX3_critical_2 : decode cX3_critical 2 = .ok (.iload_n 2, 1) := by decide +kernel
theorem dX3_critical_3 : decode cX3_critical 3 = .ok (.invokevirtual 113, 3) := by decide +kernel
theorem dX3_critical_6 : decode cX3_critical 6 = .ok (.ifCond .eq 12, 3) := by decide +kernel
theorem dX3_critical_9 : decode cX3_critical 9 = .ok (.aload_n 0, 1) := by decide +kernel
theorem dX3_critical_10 : decode cX3_critical 10 = .ok (.iload_n 1, 1) := by decide +kernel
theorem dX3_critical_11 : decode cX3_critical 11 = .ok (.iload_n 2, 1) := by decide +kernel
theorem dX3_critical_12 : decode cX3_critical 12 = .ok (.invokevirtual 120, 3) := by decide +kernel
theorem dX3_critical_15 : decode cX3_critical 15 = .ok (.goto 4, 3) := by decide +kernel
theorem dX3_critical_18 : decode cX3_critical 18 = .ok (.iconst 0, 1) := by decide +kernel
theorem dX3_critical_19 : decode cX3_critical 19 = .ok (.ireturn, 1) := by decide +kernel
set_option maxRecDepth 20000 in
theorem ggX3_margin_X3_asksIf : GoodIn wsX3_margin wsX3_asksIf := goodIn_r _ [6, 7, 8, 5, 9, 10, 11, 12, 13, 14, 15, 16, 17, 73, 74, 75, 76, 77, 78, 79, 80, 81, 82, 83, 84, 85, 86, 87, 88, 89] (by decide +kernel) (by decide +kernel)
set_option maxRecDepth 20000 in
theorem gX3_margin_X3_asksIf : GoodIn wsX3_margin (wsV RX3 113 RX3 yX3_asksIf wsX3_asksIf) := goodIn_app (goodIn_of _ (by decide +kernel)) ggX3_margin_X3_asksIf
set_option maxRecDepth 20000 in
theorem ggX3_margin_X3_worst : GoodIn wsX3_margin wsX3_worst := goodIn_r _ [21, 22, 23, 24, 25, 5, 26, 27, 28, 29, 30, 31, 32, 33, 34, 35, 36, 37, 38, 39, 40, 41, 42, 43, 44, 45, 46, 47, 48, 49, 50, 51, 52, 53, 54, 55, 56, 57, 58, 59, 60, 61, 62, 63, 64, 65, 66, 67, 68, 69, 70, 71, 72, 73, 74, 75, 76, 77, 78, 79, 80, 81, 82, 83, 84, 85, 86, 87, 88, 89] (by decide +kernel) (by decide +kernel)
set_option maxRecDepth 20000 in
theorem gX3_margin_X3_worst : GoodIn wsX3_margin (wsV RX3 120 RX3 yX3_worst wsX3_worst) := goodIn_app (goodIn_of _ (by decide +kernel)) ggX3_margin_X3_worst
set_option maxRecDepth 20000 in
theorem ggX3_margin_X3_greatest : GoodIn wsX3_margin wsX3_greatest := goodIn_r _ [26, 22, 27, 28, 29, 30, 5, 31, 32, 33, 34, 35, 36, 37, 38, 39, 40, 41, 42, 43, 44, 45, 46, 47, 48, 49, 50, 51, 52, 53, 54, 55, 56, 57, 58, 59, 60, 61, 62, 63, 64, 65, 66, 67, 68, 69, 70, 71, 72, 73, 74, 75, 76, 77, 78, 79, 80, 81, 82, 83, 84, 85, 86, 87, 88, 89] (by decide +kernel) (by decide +kernel)
set_option maxRecDepth 20000 in
theorem gX3_margin_X3_greatest : GoodIn wsX3_margin (wsV RX3 117 RX3 yX3_greatest wsX3_greatest) := goodIn_app (goodIn_of _ (by decide +kernel)) ggX3_margin_X3_greatest
theorem dX3_margin_0 : decode cX3_margin 0 = .ok (.aload_n 0, 1) := by decide +kernel
theorem dX3_margin_1 : decode cX3_margin 1 = .ok (.iload_n 1, 1) := by decide +kernel
theorem dX3_margin_2 : decode cX3_margin 2 = .ok (.iload_n 2, 1) := by decide +kernel
theorem dX3_margin_3 : decode cX3_margin 3 = .ok (.invokevirtual 113, 3) := by decide +kernel
theorem dX3_margin_6 : decode cX3_margin 6 = .ok (.ifCond .eq 23, 3) := by decide +kernel
theorem dX3_margin_9 : decode cX3_margin 9 = .ok (.aload_n 0, 1) := by decide +kernel
theorem dX3_margin_10 : decode cX3_margin 10 = .ok (.getfield 29, 3) := by decide +kernel
theorem dX3_margin_13 : decode cX3_margin 13 = .ok (.aload_n 0, 1) := by decide +kernel
theorem dX3_margin_14 : decode cX3_margin 14 = .ok (.iload_n 1, 1) := by decide +kernel
theorem dX3_margin_15 : decode cX3_margin 15 = .ok (.iload_n 2, 1) := by decide +kernel
theorem dX3_margin_16 : decode cX3_margin 16 = .ok (.aload_n 0, 1) := by decide +kernel
theorem dX3_margin_17 : decode cX3_margin 17 = .ok (.iload_n 1, 1) := by decide +kernel
theorem dX3_margin_18 : decode cX3_margin 18 = .ok (.iload_n 2, 1) := by decide +kernel
theorem dX3_margin_19 : decode cX3_margin 19 = .ok (.invokevirtual 120, 3) := by decide +kernel
theorem dX3_margin_22 : decode cX3_margin 22 = .ok (.invokevirtual 117, 3) := by decide +kernel
theorem dX3_margin_25 : decode cX3_margin 25 = .ok (.isub, 1) := by decide +kernel
theorem dX3_margin_26 : decode cX3_margin 26 = .ok (.goto 4, 3) := by decide +kernel
theorem dX3_margin_29 : decode cX3_margin 29 = .ok (.iconst 0, 1) := by decide +kernel
theorem dX3_margin_30 : decode cX3_margin 30 = .ok (.ireturn, 1) := by decide +kernel
end
section
/-! ===== the model in numbers ===== -/
def inR (v lo hi : Int32) : Prop := ¬ v < lo ∧ v ≤ hi
theorem kNlt {v hi : Int32} (h : v ≤ hi) : ¬ hi < v := Int32.not_lt.mpr h
theorem inR_hi {v lo hi : Int32} (h : inR v lo hi) : ¬ hi < v := kNlt h.2
theorem inR_nI {n lo hi : Nat} (h1 : lo ≤ n) (h2 : n ≤ hi) (h3 : hi < 2 ^ 31) : inR (nI n) (nI lo) (nI hi) := ⟨nI_nlt h1 (by omega), nI_le h2 h3⟩
def qHeld (v lo hi : Int32) : Int32 := if lo ≤ v then (if v ≤ hi then v else hi) else lo
def qPart (v y : Int32) : Int32 := if v < 0 then -((y - nI 1 - v) / y) else v / y
def qEr (t e sp : Int32) : Int32 := qHeld (e + (t - sp)) (-20000) (nI 20000)
def qWa (gp gi t sp e : Int32) : Int32 := qHeld (qPart (gp * (t - sp) + qPart (gi * e) (nI 100)) (nI 100)) (nI 0) (nI 100)
def qRa (F g : Nat → Int32) (w : Int32) : Int32 := if mSum g 8 = mRun F g 8 then w else if mRun F g 8 = 0 then nI 100 else qHeld (w * mSum g 8 / mRun F g 8) (nI 0) (nI 100)
def qGd (g dm : Nat → Int32) : Nat → Int32
  | 0 => nI 0
  | n + 1 => if g n ≤ 0 then qGd g dm n else if dm n ≤ qGd g dm n then qGd g dm n else dm n
theorem qGd_a (g dm : Nat → Int32) (n : Nat) (h : g n ≤ 0) : qGd g dm (n + 1) = qGd g dm n := by
  show (if g n ≤ 0 then _ else _) = _
  rw [if_pos h]
theorem qGd_b (g dm : Nat → Int32) (n : Nat) (h : ¬ g n ≤ 0) (h2 : dm n ≤ qGd g dm n) : qGd g dm (n + 1) = qGd g dm n := by
  show (if g n ≤ 0 then _ else _) = _
  rw [if_neg h, if_pos h2]
theorem qGd_c (g dm : Nat → Int32) (n : Nat) (h : ¬ g n ≤ 0) (h2 : ¬ dm n ≤ qGd g dm n) : qGd g dm (n + 1) = dm n := by
  show (if g n ≤ 0 then _ else _) = _
  rw [if_neg h, if_neg h2]
def qSp (dl c : Nat) (fv : Int32) (C : Nat → Int32) (o : Nat) : Int32 := if dl ≤ c then (if fv = 0 then C (o + (c - dl) % 9) else nI 0) else nI 0
def qTn (t lo am co : Int32) : Int32 := t + (lo + qPart (am - t) (nI 64) - co / nI 100)
def mFo (o n : Nat) (g f : Nat → Int32) : Nat → Int32 := fun j => if o ≤ j ∧ j < o + n then g (j - o) else f j
theorem mFo_0 (o : Nat) (g f : Nat → Int32) : mFo o 0 g f = f := by
  funext j
  simp only [mFo]
  rw [if_neg (by omega)]
theorem mFo_up (o n : Nat) (g f : Nat → Int32) : upd (mFo o n g f) (o + n) (g n) = mFo o (n + 1) g f := by
  funext j
  simp only [upd, mFo]
  by_cases h : j = o + n
  · subst h
    rw [if_pos rfl, if_pos (by omega), Nat.add_sub_cancel_left]
  · rw [if_neg h]
    by_cases h2 : o ≤ j ∧ j < o + n
    · rw [if_pos h2, if_pos (by omega)]
    · rw [if_neg h2, if_neg (by omega)]
theorem mFo_at (o n : Nat) (g f : Nat → Int32) : mFo o n g f (o + n) = f (o + n) := by
  simp only [mFo]
  rw [if_neg (by omega)]
theorem mFo_in {o n i : Nat} (g f : Nat → Int32) (h : i < n) : mFo o n g f (o + i) = g i := by
  simp only [mFo]
  rw [if_pos (by omega), Nat.add_sub_cancel_left]
theorem mFo_out {o n j : Nat} (g f : Nat → Int32) (h : j < o ∨ o + n ≤ j) : mFo o n g f j = f j := by
  simp only [mFo]
  rw [if_neg (by omega)]
def qE1 (h : Nat) (T Su Se : Nat → Int32) : Nat → Int32 := fun z => qEr (T (6 * h + z)) (Su (6 * h + z)) (Se z)
def qD1 (h : Nat) (gp gi : Int32) (T Su Se F Ef : Nat → Int32) : Nat → Int32 := fun z => qRa (fun f => F (8 * h + f)) (fun f => Ef (6 * f + z)) (qWa gp gi (T (6 * h + z)) (Se z) (qEr (T (6 * h + z)) (Su (6 * h + z)) (Se z)))
def qG1 (h : Nat) (Ef Dm : Nat → Int32) (f : Nat) : Int32 := qGd (fun z => Ef (6 * f + z)) (fun z => Dm (6 * h + z)) 6
def qCk (h : Nat) (Ef Dm : Nat → Int32) (ck : Nat → Nat) (C : Nat → Int32) : Nat → Nat → Int32
  | 0 => C
  | k + 1 => upd (qCk h Ef Dm ck C k) (9 * (8 * h + k) + ck h % 9) (qG1 h Ef Dm k)
def qS1 (h : Nat) (Ef Dm F : Nat → Int32) (ck : Nat → Nat) (C : Nat → Int32) (dl : Nat) : Nat → Int32 := fun f => qSp dl (ck h) (F (8 * h + f)) (qCk h Ef Dm ck C (f + 1)) (9 * (8 * h + f))
def qCo (h : Nat) (Ef Sp : Nat → Int32) (z : Nat) : Nat → Int32 := mSum (fun f => Ef (6 * f + z) * Sp (8 * h + f))
def qT1 (h : Nat) (am : Int32) (T Lo Ef Sp : Nat → Int32) : Nat → Int32 := fun z => qTn (T (6 * h + z)) (Lo z) am (qCo h Ef Sp z 8)
/-- what a minute of half h leaves -/
def qSu (h : Nat) (T Su Se : Nat → Int32) : Nat → Int32 := mFo (6 * h) 6 (qE1 h T Su Se) Su
def qDm (h : Nat) (gp gi : Int32) (T Su Dm Se F Ef : Nat → Int32) : Nat → Int32 := mFo (6 * h) 6 (qD1 h gp gi T Su Se F Ef) Dm
def qC (h : Nat) (gp gi : Int32) (T Su Dm Se F Ef : Nat → Int32) (ck : Nat → Nat) (C : Nat → Int32) : Nat → Int32 := qCk h Ef (qDm h gp gi T Su Dm Se F Ef) ck C 8
def qS (h : Nat) (gp gi : Int32) (T Su Dm Se F Ef Sp : Nat → Int32) (ck : Nat → Nat) (C : Nat → Int32) (dl : Nat) : Nat → Int32 := mFo (8 * h) 8 (qS1 h Ef (qDm h gp gi T Su Dm Se F Ef) F ck C dl) Sp
def qT (h : Nat) (gp gi am : Int32) (T Su Dm Lo Se F Ef Sp : Nat → Int32) (ck : Nat → Nat) (C : Nat → Int32) (dl : Nat) : Nat → Int32 := mFo (6 * h) 6 (qT1 h am T Lo Ef (qS h gp gi T Su Dm Se F Ef Sp ck C dl)) T
theorem ck_up (ck : Nat → Nat) (h : Nat) : upd (fun j => nI (ck j)) h (nI (ck h + 1)) = fun j => nI (va_up ck h (ck h + 1) j) := by
  funext j
  by_cases e : j = h
  · subst e; simp [upd, va_up]
  · simp [upd, va_up, e]
theorem add_nI0 (x : Int32) : x + nI 0 = x := Int32.add_zero x
theorem mMax_l {x y : Int32} (h : y ≤ x) : mMax x y = x := if_neg (Int32.not_lt.mpr h)
theorem mMax_r {x y : Int32} (h : ¬ y ≤ x) : mMax x y = y := if_pos (Int32.not_le.mp h)
def qNot (li : Int32) (T : Nat → Int32) (b : Int32) : Nat → Int32
  | 0 => b
  | n + 1 => if T n ≤ li then qNot li T b n else qNot li T b n + nI 1
theorem qNot_t (li : Int32) (T : Nat → Int32) (b : Int32) (n : Nat) (h : T n ≤ li) : qNot li T b (n + 1) = qNot li T b n := by
  show (if T n ≤ li then _ else _) = _
  rw [if_pos h]
theorem qNot_f (li : Int32) (T : Nat → Int32) (b : Int32) (n : Nat) (h : ¬ T n ≤ li) : qNot li T b (n + 1) = qNot li T b n + nI 1 := by
  show (if T n ≤ li then _ else _) = _
  rw [if_neg h]
theorem qNot_m (li : Int32) (T : Nat → Int32) (b : Int32) : ∀ n : Nat, qNot li T b n = b + mNot li T n
  | 0 => (Int32.add_zero b).symm
  | n + 1 => by
    by_cases h : T n ≤ li
    · rw [qNot_t li T b n h, mNot_t li T n h, qNot_m li T b n]
    · rw [qNot_f li T b n h, mNot_f li T n h, qNot_m li T b n, Int32.add_assoc]; rfl
/-! ===== the world of the model ===== -/
def wM (cI cZ : ClassId) (y : Nat → Nat) (Lo Se Ef : Nat → Int32) (gp gi am li : Int32) (dl : Nat) (ck : Nat → Nat) (T Su Dm F Sp C Ho : Nat → Int32) (th : Int32) : va_W :=
  [(y 0, .inr (3, [.ref (y 1), .ref (y 2), .ref (y 3), .int gp, .int gi, .int am, .int li, .int (nI dl), .ref (y 4), .ref (y 5), .ref (y 6), .ref (y 7), .ref (y 8), .ref (y 9), .ref (y 10), .ref (y 11), .int th])),
    (y 1, .inl (cI, 6, .inl Lo)), (y 2, .inl (cI, 6, .inl Se)), (y 3, .inl (cI, 48, .inl Ef)), (y 4, .inl (cI, 2, .inl (fun j => nI (ck j)))), (y 5, .inl (cI, 12, .inl T)), (y 6, .inl (cI, 12, .inl Su)), (y 7, .inl (cI, 12, .inl Dm)), (y 8, .inl (cZ, 16, .inl F)), (y 9, .inl (cI, 16, .inl Sp)), (y 10, .inl (cI, 144, .inl C)), (y 11, .inl (cI, 6, .inl Ho))]
end
