/-! ===== the object's state, its trial apart ===== -/
abbrev QS : Type := Nat × (Nat → Int32) × HS × (Nat → Int32) × (Nat → Int32) × (Nat → Nat → Int32) × Int32 × Int32 × Int32 × Int32 × Nat
abbrev qK (q : QS) : Nat := q.1
abbrev qHo (q : QS) : Nat → Int32 := q.2.1
abbrev qσ (q : QS) : HS := q.2.2.1
abbrev qLo (q : QS) : Nat → Int32 := q.2.2.2.1
abbrev qSe (q : QS) : Nat → Int32 := q.2.2.2.2.1
abbrev qEf (q : QS) : Nat → Nat → Int32 := q.2.2.2.2.2.1
abbrev qgp (q : QS) : Int32 := q.2.2.2.2.2.2.1
abbrev qgi (q : QS) : Int32 := q.2.2.2.2.2.2.2.1
abbrev qam (q : QS) : Int32 := q.2.2.2.2.2.2.2.2.1
abbrev qli (q : QS) : Int32 := q.2.2.2.2.2.2.2.2.2.1
abbrev qdl (q : QS) : Nat := q.2.2.2.2.2.2.2.2.2.2
abbrev wQ (cI cZ cO : ClassId) (x a t b : Nat → Nat) (q : QS) (ρ : HS) : va_W := wC cI cZ cO x a t b (qK q) (qHo q) (sT (qσ q)) (sE (qσ q)) (sD (qσ q)) (sF (qσ q)) (sS (qσ q)) (sC (qσ q)) (sL (qσ q)) (sT ρ) (sE ρ) (sD ρ) (sF ρ) (sS ρ) (sC ρ) (sL ρ) (qLo q) (qSe q) (qEf q) (qgp q) (qgi q) (qam q) (qli q) (qdl q)
abbrev qSt (q : QS) (σ : HS) : HS := hStep (qgp q) (qgi q) (qam q) (qLo q) (qSe q) (qEf q) (qdl q) σ
abbrev qRn (q : QS) (n : Nat) (σ : HS) : HS := hRun (qgp q) (qgi q) (qam q) (qLo q) (qSe q) (qEf q) (qdl q) n σ
def qPass (q : QS) (n : Nat) : QS := (qK q + n, pHo (qli q) (fun k => sT (qRn q k (qσ q))) (qHo q) n, qRn q n (qσ q), qLo q, qSe q, qEf q, qgp q, qgi q, qam q, qli q, qdl q)
def qsLoad (q : QS) (z : Nat) (v : Int32) : QS := (qK q, qHo q, qσ q, upd (qLo q) z v, qSe q, qEf q, qgp q, qgi q, qam q, qli q, qdl q)
def qsSet (q : QS) (z : Nat) (v : Int32) : QS := (qK q, qHo q, (sT (qσ q), upd (sE (qσ q)) z (nI 0), sD (qσ q), sF (qσ q), sS (qσ q), sC (qσ q), sL (qσ q)), qLo q, upd (qSe q) z v, qEf q, qgp q, qgi q, qam q, qli q, qdl q)
def qsEff (q : QS) (f z : Nat) (v : Int32) : QS := (qK q, qHo q, qσ q, qLo q, qSe q, va_up (qEf q) f (upd (qEf q f) z v), qgp q, qgi q, qam q, qli q, qdl q)
def qsGains (q : QS) (v w : Int32) : QS := (qK q, qHo q, qσ q, qLo q, qSe q, qEf q, v, w, qam q, qli q, qdl q)
def qsHall (q : QS) (v w : Int32) : QS := (qK q, qHo q, qσ q, qLo q, qSe q, qEf q, qgp q, qgi q, v, w, qdl q)
def qsDelay (q : QS) (d : Nat) : QS := (qK q, qHo q, qσ q, qLo q, qSe q, qEf q, qgp q, qgi q, qam q, qli q, d)
def qsFail (q : QS) (f : Nat) : QS := (qK q, qHo q, hFail (qσ q) f, qLo q, qSe q, qEf q, qgp q, qgi q, qam q, qli q, qdl q)
def qsRep (q : QS) (f : Nat) : QS := (qK q, qHo q, (sT (qσ q), sE (qσ q), sD (qσ q), upd (sF (qσ q)) f (nI 0), sS (qσ q), sC (qσ q), sL (qσ q)), qLo q, qSe q, qEf q, qgp q, qgi q, qam q, qli q, qdl q)
def qE (q : QS) (z m : Nat) : Int32 := gOf (qgp q) (qgi q) (qam q) (qLo q) (qSe q) (qEf q) (qdl q) (qσ q) z m
def qCr (q : QS) (z m : Nat) : Int32 := (crit (sF (qσ q)) (fun f => gOf (qgp q) (qgi q) (qam q) (qLo q) (qSe q) (qEf q) (qdl q) (hFail (qσ q) f) z m) 8).1
def qM (q : QS) (z m : Nat) : Int32 := qli q - gAny (qgp q) (qgi q) (qam q) (qLo q) (qSe q) (qEf q) (qdl q) (qσ q) z m (crit (sF (qσ q)) (fun f => gOf (qgp q) (qgi q) (qam q) (qLo q) (qSe q) (qEf q) (qdl q) (hFail (qσ q) f) z m) 8).1
/-! ===== rows ===== -/
theorem kEnterQ {l : Launch} {y : MethodName} {ws ws' : List Cond} {rm : Room} {D : va_G} {tys : List (ClassId × FieldType)} {av : List Value} {W0 : va_W} {sz : Nat} {Qc : Array Value → State → Outcome → State → Prop} {mc ms : Nat} {cc : ByteArray} {maxL : Nat} {ret : Option FieldType}
    (hy : plainFor y = true) (hw : ws = Cond.code y cc maxL ret :: ws') (hln : (lg_sl av).length ≤ maxL)
    (body : ∀ (p : Program) (e : Env) (s : State) (m : MethodId) (below : List Frame) (meth : Method) (c : Code) (args : Array Value), p.tables.exec = Jvm.exec → c.code = cc → meth.sig.returnType = ret → c.maxLocals = maxL → (∀ w ∈ ws, w.before args s = true) → s.vm.findClass y.cls = some m.cls → meth.locks = false → va_K D vwCl tys s → kN s →
      ∀ A : Nat → Prop, va_A W0 sz = A → ∀ Q : State → Prop, MQ below Qc args s mc ms (va_A W0 sz) = Q → va_P D vwCl W0 s.heap → va_D A W0 → s.heap.size = sz → va_S A s.heap s.heap [] → (∀ q : Nat, s.heap.size ≤ q → A q) → kX A s s.heap → va_Nc nISE nIAE s → ∀ ls : Array Slot, lv_has ls maxL (lv_args 0 av) →
      W p l e rm s m args below meth c s.heap [] 0 0 Q (F0 m 0 ls [])) :
    Met l y ws rm (va_Pc av (kPreH D tys W0 sz)) Qc mc ms (va_A W0 sz) := by
  refine kOfW (cc := cc) (maxL := maxL) (ret := ret) hy hw ?_
  intro p e s m args below meth c s₁ B hml hv
  obtain ⟨rfl, ⟨hsz, hP, hK, hD0, hN⟩, hX, hC⟩ := hv
  have hts := atoms_spec (ws := ws) B.pre
  have hown : s.vm.findClass y.cls = some m.cls := findClass_of_methodNamed B.named
  have hl := lv_entry av (n := maxL) hln
  have h1 := body p e s m below meth c _ B.exec B.bytes B.returns hml hts hown B.notSynchronized hK hN _ rfl _ rfl hP (hD0.self (sz := sz)) hsz va_S.rf (fun q h => Or.inr (by rw [← hsz]; exact h)) hX hC _ hl
  rw [lg_entry_eq]
  exact h1
abbrev kMHl {S : Type} (l : Launch) (y : MethodName) (ws : List Cond) (rm : Room) (D : va_G) (tys : List (ClassId × FieldType)) (av : List Value) (W0 : va_W) (W1 : S → va_W) (mc ms sz : Nat) (r : Int64) : Prop :=
  Met l y ws rm (va_Pc av (kPreH D tys W0 sz)) (va_Ql (fun (x : Int64) (_ : S) => x = r) (kBE D W1) (va_A W0 sz)) mc ms (va_A W0 sz)
def kPreR (b L : Nat) (xs : Nat → Int32) (sz : Nat) : State → Prop := fun U => U.heap.size = sz ∧ va_X b L xs U U.heap ∧ b < sz
abbrev kMR (l : Launch) (y : MethodName) (ws : List Cond) (rm : Room) (av : List Value) (b L : Nat) (xs : Nat → Int32) (sz : Nat) (r : Int32) : Prop :=
  Met l y ws rm (va_Pc av (kPreR b L xs sz)) (va_Qi (fun (x : Int32) (_ : Unit) => x = r) (fun _ _ => True) (va_A [] sz)) 0 0 (va_A [] sz)
section QR
variable {p : Program} {l : Launch} {e : Env} {R : Room} {s : State} {m : MethodId} {args : Array Value} {below : List Frame} {meth : Method} {c : Code} {H : Heap} {locs : List Loc} {cells slots mc ms : Nat} {Q : State → Prop}
variable {pc : Nat} {ls : Array Slot} {rest st0 : List Value} {a : Array Value} {A0 : Nat → Prop} {H0 : Heap} {D : va_G} {T W0 bb : va_W} {cc : ByteArray} {tys : List (ClassId × FieldType)}
theorem kCallP_l {S : Type} {W1 : S → va_W} {post : Int64 → S → Prop} {B : S → State → Prop} (hB : ∀ u t, B u t → va_P D vwCl (W1 u) t.heap) (hP : va_P D vwCl (W0 ++ T) H) (hD : va_D A0 (W0 ++ T)) (hS : va_S A0 H0 H locs) (hA : ∀ q, H0.size ≤ q → A0 q) (hF : ∀ u, (W1 u).map (·.1) = W0.map (·.1))
    (hr : va_Run p l e R s m args below meth c H locs cells slots mc ms (F0 m pc ls st0) rest (va_Ql post B (va_A W0 H.size) a) (va_A W0 H.size))
    (kk : ∀ (x : Int64) (u : S) (H1 : Heap) (locs1 : List Loc), post x u → va_P D vwCl (W1 u ++ T) H1 → va_D A0 (W1 u ++ T) → va_S A0 H0 H1 locs1 → W p l e R s m args below meth c H1 locs1 (cells + mc) (slots + ms) Q (F0 m (pc + 3) ls (.long x :: rest))) : W p l e R s m args below meth c H locs cells slots Q (F0 m pc ls st0) := by
  have hFc := kfree (pfD hD) hS hA
  refine va_calll hr hS (fun q _ h => hFc q h) hFc (fun x u t H1 locs1 ht hvm hx hB9 hz hk hS1 => ?_)
  have hB1 := hB u t hB9
  rw [ht] at hB1
  exact kk x u H1 locs1 hx (jnP hB1 (kpS hP hD hk)) (kfull hD (by rw [List.map_append, List.map_append, hF])) hS1
theorem kCallD {r : Int32} (hP : va_P D vwCl W0 H) (hS : va_S A0 H0 H locs) (hA : ∀ q, H0.size ≤ q → A0 q)
    (hr : va_Run p l e R s m args below meth c H locs cells slots 0 0 (F0 m pc ls st0) rest (va_Qi (fun (x : Int32) (_ : Unit) => x = r) (fun _ _ => True) (va_A [] H.size) a) (va_A [] H.size))
    (kk : ∀ (H1 : Heap) (locs1 : List Loc), va_P D vwCl W0 H1 → va_S A0 H0 H1 locs1 → W p l e R s m args below meth c H1 locs1 cells slots Q (F0 m (pc + 3) ls (.int r :: rest))) : W p l e R s m args below meth c H locs cells slots Q (F0 m pc ls st0) := by
  have hn : ∀ q, va_A [] H.size q → H.size ≤ q := fun q h => by
    rcases h with ⟨j, e9, h3⟩ | h
    · simp at h3
    · exact h
  have hFc : ∀ q, va_A [] H.size q → A0 q := fun q h => hA q (Nat.le_trans hS.1 (hn q h))
  refine va_calli hr hS (fun q _ h => hFc q h) hFc (fun x u t H1 locs1 ht hvm hx hB9 hz hk hS1 => ?_)
  subst hx
  exact kk H1 locs1 (fun k q hq => (hP k q hq).kept (hk q.1 ((hP k q hq).lt) (fun h => absurd ((hP k q hq).lt) (Nat.not_lt.mpr (hn q.1 h))))) hS1
theorem kRetH_l {S : Type} {W1 : S → va_W} (u : S) {sz mc ms : Nat} {v r : Int64} (hx : p.tables.exec = Jvm.exec) (hb : c.code = cc) (hr : meth.sig.returnType = some .long) (hlocks : meth.locks = false) (hP : va_P D vwCl (W1 u) H) (hS : va_S (va_A W0 sz) s.heap H locs) (hdg : decode cc pc = .ok (.lreturn, 1)) (he : v = r) :
    W p l e R s m args below meth c H locs mc ms (MQ below (va_Ql (fun (x : Int64) (_ : S) => x = r) (kBE D W1) (va_A W0 sz)) args s mc ms (va_A W0 sz)) (F0 m pc ls [.long v]) := by
  subst he
  exact W.lret (v := v) hx hb hr (fun t ht hW => ⟨⟨v, u, rfl, rfl, by show va_P D vwCl (W1 u) t.heap; rw [ht]; exact hP⟩, hS.F ht⟩) hS.2.2 hdg hlocks
theorem kRetH_z {S : Type} {W1 : S → va_W} (u : S) {sz mc ms : Nat} {v r : Int32} (hx : p.tables.exec = Jvm.exec) (hb : c.code = cc) (hr : meth.sig.returnType = some .boolean) (hlocks : meth.locks = false) (hP : va_P D vwCl (W1 u) H) (hS : va_S (va_A W0 sz) s.heap H locs) (hdg : decode cc pc = .ok (.ireturn, 1)) (he : v = r) (h01 : narrow .boolean (.int v) = .int v) :
    W p l e R s m args below meth c H locs mc ms (MQ below (va_Qi (fun (x : Int32) (_ : S) => x = r) (kBE D W1) (va_A W0 sz)) args s mc ms (va_A W0 sz)) (F0 m pc ls [.int v]) := by
  subst he
  exact W.zret (v := v) hx hb hr h01 (fun t ht hW => ⟨⟨v, u, rfl, rfl, by show va_P D vwCl (W1 u) t.heap; rw [ht]; exact hP⟩, hS.F ht⟩) hS.2.2 hdg hlocks
theorem k_ialdT {ar : Nat} (hx : p.tables.exec = Jvm.exec) (hb : c.code = cc) (hK : va_K D vwCl tys s) (hP : va_P D vwCl (T ++ bb) H) (k t0 : Nat) {cA : ClassId} {n : Nat} {f : Nat → Int32} (ha : bb[k]? = some (ar, .inl (cA, n, .inl f))) (ht : tys[t0]? = some (cA, .int)) {i : Nat} (hi : i < n) (hn : n < 2 ^ 31) (hdg : decode cc pc = .ok (.iaload, 1))
    (kk : W p l e R s m args below meth c H locs cells slots Q (F0 m (pc + 1) ls (.int (f i) :: rest))) : W p l e R s m args below meth c H locs cells slots Q (F0 m pc ls (.int (nI i) :: .ref ar :: rest)) :=
  k_iald hx hb hK hP (T.length + k) t0 (sfG ha) ht hi hn hdg kk
theorem k_iastT {ar : Nat} (hx : p.tables.exec = Jvm.exec) (hb : c.code = cc) (hK : va_K D vwCl tys s) (hP : va_P D vwCl (T ++ bb) H) (hD : va_D A0 (T ++ bb)) (hS : va_S A0 H0 H locs) (k t0 : Nat) {cA : ClassId} {n : Nat} {f : Nat → Int32} (ha : bb[k]? = some (ar, .inl (cA, n, .inl f))) (ht : tys[t0]? = some (cA, .int)) {i : Nat} {x : Int32} (hi : i < n) (hn : n < 2 ^ 31) (hdg : decode cc pc = .ok (.iastore, 1))
    (kk : ∀ (H1 : Heap) (locs1 : List Loc), va_P D vwCl (T ++ bb.set k (ar, .inl (cA, n, .inl (upd f i x)))) H1 → va_D A0 (T ++ bb.set k (ar, .inl (cA, n, .inl (upd f i x)))) → va_S A0 H0 H1 locs1 → W p l e R s m args below meth c H1 locs1 cells slots Q (F0 m (pc + 1) ls rest)) : W p l e R s m args below meth c H locs cells slots Q (F0 m pc ls (.int x :: .int (nI i) :: .ref ar :: rest)) := by
  refine k_iast hx hb hK hP hD hS (T.length + k) t0 (sfG ha) ht hi hn hdg (fun H1 locs1 h1 h2 h3 => ?_)
  rw [List.set_append_right _ _ (Nat.le_add_right _ _), Nat.add_sub_cancel_left] at h1 h2
  exact kk H1 locs1 h1 h2 h3
theorem k_lcmp0 {x y : Int64} (he : x = y) (hx : p.tables.exec = Jvm.exec) (hb : c.code = cc) (hdg : decode cc pc = .ok (.lcmp, 1))
    (kk : W p l e R s m args below meth c H locs cells slots Q (F0 m (pc + 1) ls (.int (nI 0) :: rest))) : W p l e R s m args below meth c H locs cells slots Q (F0 m pc ls (.long y :: .long x :: rest)) := by
  subst he
  refine W.lcmp hx hb hdg ?_
  rw [show lg_cmp x x = nI 0 from by
    unfold lg_cmp
    rw [if_neg (Int64.lt_irrefl), if_pos rfl]
    rfl]
  exact kk
end QR
theorem nI_div {a c : Nat} (ha : a < 2 ^ 31) (h0 : 0 < c) (hc : c < 2 ^ 31) : nI a / nI c = nI (a / c) := by
  apply Int32.toInt_inj.mp
  rw [mDiv (by rw [toI c hc]; omega), toI a ha, toI c hc, toI (a / c) (Nat.lt_of_le_of_lt (Nat.div_le_self a c) ha), Int.tdiv_eq_ediv_of_nonneg (by omega)]
  exact (Int.natCast_ediv a c).symm
theorem nI_mod {a c : Nat} (ha : a < 2 ^ 31) (h0 : 0 < c) (hc : c < 2 ^ 31) : nI a - nI a / nI c * nI c = nI (a % c) := by
  rw [nI_div ha h0 hc, pk_mul]
  apply Int32.toInt_inj.mp
  have h1 : a / c * c ≤ a := Nat.div_mul_le_self a c
  have h2 : a % c = a - a / c * c := by
    have := Nat.div_add_mod a c
    rw [Nat.mul_comm] at this
    omega
  rw [fb_subI (by rw [toI a ha, toI _ (by omega)]; omega) (by rw [toI a ha, toI _ (by omega)]; omega), toI a ha, toI _ (by omega), toI _ (by omega), h2]
  omega
