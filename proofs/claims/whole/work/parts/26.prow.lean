/-! ===== contracts that leave something open, with a word on it ===== -/
abbrev kMP {S : Type} (l : Launch) (y : MethodName) (ws : List Cond) (rm : Room) (D : va_G) (tys : List (ClassId × FieldType)) (av : List Value) (W0 : va_W) (W1 : S → va_W) (P : S → Prop) (sz : Nat) (r : Int32) : Prop :=
  Met l y ws rm (va_Pc av (kPre D tys W0 sz)) (va_Qi (fun (x : Int32) (u : S) => x = r ∧ P u) (kBE D W1) (va_A W0 sz)) 0 0 (va_A W0 sz)
section KRP
variable {p : Program} {l : Launch} {e : Env} {R : Room} {s : State} {m : MethodId} {args : Array Value} {below : List Frame} {meth : Method} {c : Code} {H : Heap} {locs : List Loc} {cells slots : Nat} {Q : State → Prop}
variable {pc : Nat} {ls : Array Slot} {rest st0 : List Value} {a : Array Value} {A0 : Nat → Prop} {H0 : Heap} {D : va_G} {ws W0 : va_W} {cc : ByteArray}
theorem kRetP_i {S : Type} {W1 : S → va_W} {P : S → Prop} (u : S) (hu : P u) {sz : Nat} {v r : Int32} (hx : p.tables.exec = Jvm.exec) (hb : c.code = cc) (hr : meth.sig.returnType = some .int) (hlocks : meth.locks = false) (hP : va_P D vwCl (W1 u) H) (hS : va_S (va_A W0 sz) s.heap H locs) (hdg : decode cc pc = .ok (.ireturn, 1)) (he : v = r) :
    W p l e R s m args below meth c H locs 0 0 (MQ below (va_Qi (fun (x : Int32) (u : S) => x = r ∧ P u) (kBE D W1) (va_A W0 sz)) args s 0 0 (va_A W0 sz)) (F0 m pc ls [.int v]) := by
  subst he
  exact W.iret (v := v) hx hb hr (fun t ht hW => ⟨⟨v, u, rfl, ⟨rfl, hu⟩, by show va_P D vwCl (W1 u) t.heap; rw [ht]; exact hP⟩, hS.F ht⟩) hS.2.2 hdg hlocks
theorem kCallWP_i {S : Type} {W1 : S → va_W} {P : S → Prop} {r : Int32} (hD : va_D A0 ws) (hS : va_S A0 H0 H locs) (hA : ∀ q, H0.size ≤ q → A0 q) (hF : ∀ u, (W1 u).map (·.1) = ws.map (·.1))
    (hr : va_Run p l e R s m args below meth c H locs cells slots 0 0 (F0 m pc ls st0) rest (va_Qi (fun (x : Int32) (u : S) => x = r ∧ P u) (kBE D W1) (va_A ws H.size) a) (va_A ws H.size))
    (kk : ∀ (u : S) (H1 : Heap) (locs1 : List Loc), P u → va_P D vwCl (W1 u) H1 → va_D A0 (W1 u) → va_S A0 H0 H1 locs1 → W p l e R s m args below meth c H1 locs1 cells slots Q (F0 m (pc + 3) ls (.int r :: rest))) : W p l e R s m args below meth c H locs cells slots Q (F0 m pc ls st0) := by
  have hFc := kfree hD hS hA
  refine va_calli hr hS (fun q _ h => hFc q h) hFc (fun x u t H1 locs1 ht hvm hx hB hz hk hS1 => ?_)
  obtain ⟨rfl, hu⟩ := hx
  have hB : va_P D vwCl (W1 u) t.heap := hB
  rw [ht] at hB
  exact kk u H1 locs1 hu hB (kfull hD (hF u)) hS1
end KRP
theorem mNot_cg {li : Int32} {T T2 : Nat → Int32} : ∀ {n : Nat}, (∀ z, z < n → T z = T2 z) → mNot li T n = mNot li T2 n
  | 0, _ => rfl
  | n + 1, h => by
    have h1 := mNot_cg (li := li) (n := n) (fun z hz => h z (by omega))
    have h2 := h n (by omega)
    by_cases c : T n ≤ li
    · rw [mNot_t li T n c, mNot_t li T2 n (by rw [← h2]; exact c), h1]
    · rw [mNot_f li T n c, mNot_f li T2 n (by rw [← h2]; exact c), h1]
theorem rel0_T {σ : HS} {μ : MS} (h : RelX 0 σ μ) {z : Nat} (hz : z < 6) : rT μ z = sT σ z := by
  have h1 := h.1.1 z hz
  rwa [show 6 * 0 + z = z from by omega] at h1
theorem rel0_E {σ : HS} {μ : MS} (h : RelX 0 σ μ) {z : Nat} (hz : z < 6) : rE μ z = sE σ z := by
  have h1 := h.1.2.1 z hz
  rwa [show 6 * 0 + z = z from by omega] at h1
theorem rel0_D {σ : HS} {μ : MS} (h : RelX 0 σ μ) {z : Nat} (hz : z < 6) : rD μ z = sD σ z := by
  have h1 := h.2.1 z hz
  rwa [show 6 * 0 + z = z from by omega] at h1
theorem rel0_F {σ : HS} {μ : MS} (h : RelX 0 σ μ) {f : Nat} (hf : f < 8) : rF μ f = sF σ f := by
  have h1 := h.1.2.2.1 f hf
  rwa [show 8 * 0 + f = f from by omega] at h1
theorem rel0_S {σ : HS} {μ : MS} (h : RelX 0 σ μ) {f : Nat} (hf : f < 8) : rS μ f = sS σ f := by
  have h1 := h.2.2 f hf
  rwa [show 8 * 0 + f = f from by omega] at h1
theorem rel0_b {σ : HS} {μ : MS} (h : RelX 0 σ μ) : ∀ f : Nat, f < 8 → rF μ f = nI 0 ∨ rF μ f = nI 1 := fun f hf => by
  rw [rel0_F h hf]; exact h.1.2.2.2.2.2.2.2.2.1 f hf
/-- the second half is a copy of the first -/
def cpM (μ : MS) : MS := (va_up (rK μ) 1 (rK μ 0), mFo 6 6 (rT μ) (rT μ), mFo 6 6 (rE μ) (rE μ), rD μ, mFo 8 8 (rF μ) (rF μ), rS μ, mFo 72 72 (rC μ) (rC μ))
def flM (μ : MS) (f : Nat) : MS := (rK μ, rT μ, rE μ, rD μ, upd (rF μ) (8 + f) (nI 1), rS μ, rC μ)
theorem cpM_same (μ : MS) : sameR μ (cpM μ) := ⟨show va_up (rK μ) 1 (rK μ 0) 0 = rK μ 0 from va_up_ne _ _ (by decide), fun j hj => show mFo 6 6 (rT μ) (rT μ) j = rT μ j from mFo_out _ _ (by omega), fun j hj => show mFo 6 6 (rE μ) (rE μ) j = rE μ j from mFo_out _ _ (by omega), fun j hj => rfl, fun j hj => show mFo 8 8 (rF μ) (rF μ) j = rF μ j from mFo_out _ _ (by omega), fun j hj => rfl, fun j hj => show mFo 72 72 (rC μ) (rC μ) j = rC μ j from mFo_out _ _ (by omega)⟩
theorem flM_same (μ : MS) (f : Nat) : sameR μ (flM μ f) := ⟨rfl, fun _ _ => rfl, fun _ _ => rfl, fun _ _ => rfl, fun j hj => by show upd (rF μ) (8 + f) (nI 1) j = rF μ j; unfold upd; rw [if_neg (by omega)], fun _ _ => rfl, fun _ _ => rfl⟩
theorem cpM_rel {σ : HS} {μ : MS} (h : RelX 0 σ μ) : RelH 1 σ (cpM μ) := by
  obtain ⟨⟨r1, r2, r3, r4, r5, r6, r7, r8, r9, r10⟩, d1, d2⟩ := id h
  refine ⟨fun z hz => ?_, fun z hz => ?_, fun f hf => ?_, fun f k hf hk => ?_, ?_, fun f k hf hk hle => ?_, r7, r8, r9, r10⟩
  · show mFo 6 6 (rT μ) (rT μ) (6 + z) = _
    rw [mFo_in _ _ hz, rel0_T h hz]
  · show mFo 6 6 (rE μ) (rE μ) (6 + z) = _
    rw [mFo_in _ _ hz, rel0_E h hz]
  · show mFo 8 8 (rF μ) (rF μ) (8 + f) = _
    rw [mFo_in _ _ hf, rel0_F h hf]
  · show mFo 72 72 (rC μ) (rC μ) (9 * (8 * 1 + f) + k) = _
    rw [show 9 * (8 * 1 + f) + k = 72 + (9 * (8 * 0 + f) + k) from by omega, mFo_in _ _ (by omega)]
    exact r4 f k hf hk
  · show sL σ = va_up (rK μ) 1 (rK μ 0) 1 % 9
    rw [va_up_self]; exact r5
  · have hle : va_up (rK μ) 1 (rK μ 0) 1 ≤ k := hle
    rw [va_up_self] at hle
    show mFo 72 72 (rC μ) (rC μ) (9 * (8 * 1 + f) + k) = _
    rw [show 9 * (8 * 1 + f) + k = 72 + (9 * (8 * 0 + f) + k) from by omega, mFo_in _ _ (by omega)]
    exact r6 f k hf hk hle
theorem flM_rel {σ : HS} {μ : MS} {g : Nat} (h : RelH 1 σ μ) : RelH 1 (hFail σ g) (flM μ g) := by
  obtain ⟨r1, r2, r3, r4, r5, r6, r7, r8, r9, r10⟩ := h
  refine ⟨r1, r2, fun f hf => ?_, r4, r5, r6, r7, r8, fun f hf => ?_, r10⟩
  · show upd (rF μ) (8 + g) (nI 1) (8 * 1 + f) = upd (sF σ) g (nI 1) f
    unfold upd
    by_cases e : f = g
    · subst e; rw [if_pos rfl, if_pos (by omega)]
    · rw [if_neg e, if_neg (by omega)]; exact r3 f hf
  · show upd (sF σ) g (nI 1) f = nI 0 ∨ upd (sF σ) g (nI 1) f = nI 1
    unfold upd
    split
    · exact Or.inr rfl
    · exact r9 f hf
theorem ck_set (ck : Nat → Nat) (h v : Nat) : upd (fun j => nI (ck j)) h (nI v) = fun j => nI (va_up ck h v j) := by
  funext j
  by_cases e : j = h
  · subst e; simp [upd, va_up]
  · simp [upd, va_up, e]
theorem qStep_K (h : Nat) (gp gi am : Int32) (Lo Se Em : Nat → Int32) (dl : Nat) (μ : MS) : rK (qStep h gp gi am Lo Se Em dl μ) h = rK μ h + 1 := va_up_self _ _ _
theorem mHo_cg {li : Int32} {T T2 Ho Hc : Nat → Int32} {z : Nat} (h1 : T z = T2 z) (h2 : Ho z = Hc z) : mHo li T Ho z = mHo li T2 Hc z := by
  unfold mHo
  rw [h1, h2]
theorem nI_nle2 {a b : Nat} (h : b < a) (ha : a < 2 ^ 31) : ¬ nI a ≤ nI b := by
  rw [nI_leI ha (by omega)]
  omega
