/-! ===== the world of a Coldaisle ===== -/
def wC (cI cZ cO : ClassId) (x a t b : Nat → Nat) (ck : Nat) (Ho T E Dm F S : Nat → Int32) (C : Nat → Nat → Int32) (la : Nat) (T1 E1 D1 F1 S1 : Nat → Int32) (C1 : Nat → Nat → Int32) (la1 : Nat) (Lo Se : Nat → Int32) (Ef : Nat → Nat → Int32) (gp gi am li : Int32) (dl : Nat) : va_W :=
  [(x 0, .inr (2, [.ref (b 0), .ref (a 0), .ref (t 0), .ref (x 1), .int (nI ck)])), (x 1, .inl (cI, 6, .inl Ho)),
    (a 0, .inr (0, [.ref (a 1), .ref (a 2), .ref (a 3), .ref (a 4), .ref (a 5), .ref (a 6), .int (nI la)])), (a 1, .inl (cI, 6, .inl T)), (a 2, .inl (cI, 6, .inl E)), (a 3, .inl (cI, 6, .inl Dm)), (a 4, .inl (cZ, 8, .inl F)), (a 5, .inl (cI, 8, .inl S)), (a 6, .inl (cO, 9, .inr (.inr (.inr (.inr (fun i => some (a (7 + i)))))))),
    (t 0, .inr (0, [.ref (t 1), .ref (t 2), .ref (t 3), .ref (t 4), .ref (t 5), .ref (t 6), .int (nI la1)])), (t 1, .inl (cI, 6, .inl T1)), (t 2, .inl (cI, 6, .inl E1)), (t 3, .inl (cI, 6, .inl D1)), (t 4, .inl (cZ, 8, .inl F1)), (t 5, .inl (cI, 8, .inl S1)), (t 6, .inl (cO, 9, .inr (.inr (.inr (.inr (fun i => some (t (7 + i)))))))),
    (b 0, .inr (1, [.ref (b 1), .ref (b 2), .ref (b 3), .int gp, .int gi, .int am, .int li, .int (nI dl)])), (b 1, .inl (cI, 6, .inl Lo)), (b 2, .inl (cI, 6, .inl Se)), (b 3, .inl (cO, 8, .inr (.inr (.inr (.inr (fun i => some (b (4 + i))))))))]
  ++ (rws cI 8 9 (fun k => a (7 + k)) C ++ (rws cI 8 9 (fun k => t (7 + k)) C1 ++ (rws cI 6 8 (fun k => b (4 + k)) Ef ++ [])))
def pA : List Nat := [2, 3, 4, 5, 6, 7, 8, 16, 17, 18, 19, 20, 21, 22, 23, 24, 25, 26, 27, 28, 38, 39, 40, 41, 42, 43, 44, 45]
def pT : List Nat := [9, 10, 11, 12, 13, 14, 15, 16, 17, 18, 19, 29, 30, 31, 32, 33, 34, 35, 36, 37, 38, 39, 40, 41, 42, 43, 44, 45]
def pAR : List Nat := [0, 1, 9, 10, 11, 12, 13, 14, 15, 29, 30, 31, 32, 33, 34, 35, 36, 37]
def pTR : List Nat := [0, 1, 2, 3, 4, 5, 6, 7, 8, 20, 21, 22, 23, 24, 25, 26, 27, 28]
theorem kframe2 {A0 : Nat → Prop} {D : va_G} {ws ws' W0 W1 : va_W} {H H1 : Heap} {n : Nat} (hP : va_P D vwCl ws H) (hD : va_D A0 ws) (is isR : List Nat) (hC : is.map (fun i => ws[i]?) = W0.map some)
    (hS1 : is.map (fun i => ws'[i]?) = W1.map some) (hS2 : isR.map (fun i => ws'[i]?) = isR.map (fun i => ws[i]?)) (hlen : ws'.length = n) (hcov : (List.range n).all (fun k => is.contains k || isR.contains k) = true) (hdis : isR.all (fun k => !is.contains k) = true)
    (hFF : ws'.map (·.1) = ws.map (·.1)) (hk : ∀ q : Nat, q < H.size → ¬ va_A W0 H.size q → H1[q]? = H[q]?) (hP1 : va_P D vwCl W1 H1) : va_P D vwCl ws' H1 ∧ va_D A0 ws' := by
  refine ⟨fun k q hq => ?_, kfull hD hFF⟩
  have hkn : k < n := by rw [← hlen]; exact (List.getElem?_eq_some_iff.mp hq).1
  have h1 := List.all_eq_true.mp hcov k (List.mem_range.mpr hkn)
  by_cases hin : k ∈ is
  · obtain ⟨j, hj⟩ := List.getElem?_of_mem hin
    have h2 : (is.map (fun i => ws'[i]?))[j]? = some (some q) := by rw [List.getElem?_map, hj]; exact congrArg some hq
    rw [hS1, List.getElem?_map] at h2
    cases hw : W1[j]? with
    | none => rw [hw] at h2; cases h2
    | some q1 =>
      rw [hw] at h2
      have h3 : q1 = q := Option.some.inj (Option.some.inj h2)
      subst h3
      exact hP1 j q1 hw
  · have hR : k ∈ isR := by
      rcases Bool.or_eq_true_iff.mp h1 with h | h
      · exact absurd (List.contains_iff_mem.mp h) hin
      · exact List.contains_iff_mem.mp h
    obtain ⟨j, hj⟩ := List.getElem?_of_mem hR
    have h2 : (isR.map (fun i => ws'[i]?))[j]? = some (some q) := by rw [List.getElem?_map, hj]; exact congrArg some hq
    rw [hS2, List.getElem?_map, hj] at h2
    have h3 : ws[k]? = some q := Option.some.inj h2
    refine (hP k q h3).kept (hk q.1 ((hP k q h3).lt) ?_)
    rintro (⟨j2, e9, h4⟩ | h4)
    · obtain ⟨i, h5, h6⟩ := kplace hC h4
      have hij := hD.1 k i q (q.1, e9) h3 h6 rfl
      subst hij
      exact hin (List.mem_of_getElem? h5)
    · exact absurd ((hP k q h3).lt) (Nat.not_lt.mpr h4)
section KR2
variable {p : Program} {l : Launch} {e : Env} {R : Room} {s : State} {m : MethodId} {args : Array Value} {below : List Frame} {meth : Method} {c : Code} {H : Heap} {locs : List Loc} {cells slots : Nat} {Q : State → Prop}
variable {pc : Nat} {ls : Array Slot} {rest st0 : List Value} {a : Array Value} {A0 : Nat → Prop} {H0 : Heap} {D : va_G} {ws ws' W0 W1 : va_W} {n mc ms : Nat}
theorem kCall2_i {r : Int32} (hP : va_P D vwCl ws H) (hD : va_D A0 ws) (hS : va_S A0 H0 H locs) (hA : ∀ q, H0.size ≤ q → A0 q) (is isR : List Nat) (hC : is.map (fun i => ws[i]?) = W0.map some)
    (hS1 : is.map (fun i => ws'[i]?) = W1.map some) (hS2 : isR.map (fun i => ws'[i]?) = isR.map (fun i => ws[i]?)) (hlen : ws'.length = n) (hcov : (List.range n).all (fun k => is.contains k || isR.contains k) = true) (hdis : isR.all (fun k => !is.contains k) = true) (hFF : ws'.map (·.1) = ws.map (·.1))
    (hr : va_Run p l e R s m args below meth c H locs cells slots mc ms (F0 m pc ls st0) rest (va_Qi (fun (x : Int32) (_ : Unit) => x = r) (kB D W1) (va_A W0 H.size) a) (va_A W0 H.size))
    (kk : ∀ (H1 : Heap) (locs1 : List Loc), va_P D vwCl ws' H1 → va_D A0 ws' → va_S A0 H0 H1 locs1 → W p l e R s m args below meth c H1 locs1 (cells + mc) (slots + ms) Q (F0 m (pc + 3) ls (.int r :: rest))) : W p l e R s m args below meth c H locs cells slots Q (F0 m pc ls st0) := by
  have hFc := va_free hD hS hA is hC
  refine va_calli hr hS (fun q _ h => hFc q h) hFc (fun x u t H1 locs1 ht hvm hx hB hz hk hS1' => ?_)
  subst hx
  have hB : va_P D vwCl W1 t.heap := hB
  rw [ht] at hB
  obtain ⟨h1, h2⟩ := kframe2 hP hD is isR hC hS1 hS2 hlen hcov hdis hFF hk hB
  exact kk H1 locs1 h1 h2 hS1'
theorem kCall2_v (hP : va_P D vwCl ws H) (hD : va_D A0 ws) (hS : va_S A0 H0 H locs) (hA : ∀ q, H0.size ≤ q → A0 q) (is isR : List Nat) (hC : is.map (fun i => ws[i]?) = W0.map some)
    (hS1 : is.map (fun i => ws'[i]?) = W1.map some) (hS2 : isR.map (fun i => ws'[i]?) = isR.map (fun i => ws[i]?)) (hlen : ws'.length = n) (hcov : (List.range n).all (fun k => is.contains k || isR.contains k) = true) (hdis : isR.all (fun k => !is.contains k) = true) (hFF : ws'.map (·.1) = ws.map (·.1))
    (hr : va_Run p l e R s m args below meth c H locs cells slots mc ms (F0 m pc ls st0) rest (va_Qv (fun (_ : Unit) => True) (kB D W1) (va_A W0 H.size) a) (va_A W0 H.size))
    (kk : ∀ (H1 : Heap) (locs1 : List Loc), va_P D vwCl ws' H1 → va_D A0 ws' → va_S A0 H0 H1 locs1 → W p l e R s m args below meth c H1 locs1 (cells + mc) (slots + ms) Q (F0 m (pc + 3) ls rest)) : W p l e R s m args below meth c H locs cells slots Q (F0 m pc ls st0) := by
  have hFc := va_free hD hS hA is hC
  refine va_callv hr hS (fun q _ h => hFc q h) hFc (fun u t H1 locs1 ht hvm hx hB hz hk hS1' => ?_)
  have hB : va_P D vwCl W1 t.heap := hB
  rw [ht] at hB
  obtain ⟨h1, h2⟩ := kframe2 hP hD is isR hC hS1 hS2 hlen hcov hdis hFF hk hB
  exact kk H1 locs1 h1 h2 hS1'
theorem kCall2_r {r : Nat} (hP : va_P D vwCl ws H) (hD : va_D A0 ws) (hS : va_S A0 H0 H locs) (hA : ∀ q, H0.size ≤ q → A0 q) (is isR : List Nat) (hC : is.map (fun i => ws[i]?) = W0.map some)
    (hS1 : is.map (fun i => ws'[i]?) = W1.map some) (hS2 : isR.map (fun i => ws'[i]?) = isR.map (fun i => ws[i]?)) (hlen : ws'.length = n) (hcov : (List.range n).all (fun k => is.contains k || isR.contains k) = true) (hdis : isR.all (fun k => !is.contains k) = true) (hFF : ws'.map (·.1) = ws.map (·.1))
    (hr : va_Run p l e R s m args below meth c H locs cells slots mc ms (F0 m pc ls st0) rest (va_Qr (fun (_ : Unit) => True) (kBr D W1 r) (va_A W0 H.size) a) (va_A W0 H.size))
    (kk : ∀ (H1 : Heap) (locs1 : List Loc), va_P D vwCl ws' H1 → va_D A0 ws' → va_S A0 H0 H1 locs1 → W p l e R s m args below meth c H1 locs1 (cells + mc) (slots + ms) Q (F0 m (pc + 3) ls (.ref r :: rest))) : W p l e R s m args below meth c H locs cells slots Q (F0 m pc ls st0) := by
  have hFc := va_free hD hS hA is hC
  refine va_callr hr hS (fun q _ h => hFc q h) hFc (fun u ra t H1 locs1 ht hvm hx hB hz hk hS1' => ?_)
  obtain ⟨rfl, hB⟩ : ra = r ∧ va_P D vwCl W1 t.heap := hB
  rw [ht] at hB
  obtain ⟨h1, h2⟩ := kframe2 hP hD is isR hC hS1 hS2 hlen hcov hdis hFF hk hB
  exact kk H1 locs1 h1 h2 hS1'
end KR2
theorem rws_fst {cI : ClassId} {w n : Nat} {r : Nat → Nat} {C : Nat → Nat → Int32} : (rws cI w n r C).map (·.1) = (List.range n).map r := by
  unfold rws
  rw [List.map_map]
  rfl
theorem rws_set2 {pre B post : va_W} {cI : ClassId} {w n : Nat} {r : Nat → Nat} {C : Nat → Nat → Int32} {j N : Nat} {X : Nat → Int32} (hN : pre.length + B.length = N) (hj : j < n) : (pre ++ (B ++ (rws cI w n r C ++ post))).set (N + j) (r j, .inl (cI, w, .inl X)) = pre ++ (B ++ (rws cI w n r (va_up C j X) ++ post)) := by
  rw [← List.append_assoc pre B (rws cI w n r C ++ post), ← List.append_assoc pre B (rws cI w n r (va_up C j X) ++ post)]
  exact rws_set (by rw [List.length_append]; exact hN) hj
theorem rws_set3 {pre A B post : va_W} {cI : ClassId} {w n : Nat} {r : Nat → Nat} {C : Nat → Nat → Int32} {j N : Nat} {X : Nat → Int32} (hN : pre.length + A.length + B.length = N) (hj : j < n) : (pre ++ (A ++ (B ++ (rws cI w n r C ++ post)))).set (N + j) (r j, .inl (cI, w, .inl X)) = pre ++ (A ++ (B ++ (rws cI w n r (va_up C j X) ++ post))) := by
  rw [← List.append_assoc pre A (B ++ (rws cI w n r C ++ post)), ← List.append_assoc pre A (B ++ (rws cI w n r (va_up C j X) ++ post))]
  exact rws_set2 (by rw [List.length_append]; exact hN) hj
section WC
variable {cI cZ cO : ClassId} {x a t b : Nat → Nat} {ck : Nat} {Ho T E Dm F S : Nat → Int32} {C : Nat → Nat → Int32} {la : Nat} {T1 E1 D1 F1 S1 : Nat → Int32} {C1 : Nat → Nat → Int32} {la1 : Nat} {Lo Se : Nat → Int32} {Ef : Nat → Nat → Int32} {gp gi am li : Int32} {dl : Nat} {j : Nat}
theorem wC_ring (hj : j < 9) : (wC cI cZ cO x a t b ck Ho T E Dm F S C la T1 E1 D1 F1 S1 C1 la1 Lo Se Ef gp gi am li dl)[20 + j]? = some (a (7 + j), .inl (cI, 8, .inl (C j))) := rws_at rfl hj
theorem wC_tring (hj : j < 9) : (wC cI cZ cO x a t b ck Ho T E Dm F S C la T1 E1 D1 F1 S1 C1 la1 Lo Se Ef gp gi am li dl)[29 + j]? = some (t (7 + j), .inl (cI, 8, .inl (C1 j))) := by
  unfold wC
  rw [← List.append_assoc]
  exact rws_at (by rw [List.length_append, rws_len]; rfl) hj
theorem wC_tring_set {X : Nat → Int32} (hj : j < 9) : (wC cI cZ cO x a t b ck Ho T E Dm F S C la T1 E1 D1 F1 S1 C1 la1 Lo Se Ef gp gi am li dl).set (29 + j) (t (7 + j), .inl (cI, 8, .inl X)) = wC cI cZ cO x a t b ck Ho T E Dm F S C la T1 E1 D1 F1 S1 (va_up C1 j X) la1 Lo Se Ef gp gi am li dl := by
  refine rws_set2 (N := 29) ?_ hj
  rw [rws_len]
  rfl
theorem wC_eff (hj : j < 8) : (wC cI cZ cO x a t b ck Ho T E Dm F S C la T1 E1 D1 F1 S1 C1 la1 Lo Se Ef gp gi am li dl)[38 + j]? = some (b (4 + j), .inl (cI, 6, .inl (Ef j))) := by
  unfold wC
  rw [← List.append_assoc, ← List.append_assoc]
  exact rws_at (by rw [List.length_append, List.length_append, rws_len, rws_len]; rfl) hj
theorem wC_eff_set {X : Nat → Int32} (hj : j < 8) : (wC cI cZ cO x a t b ck Ho T E Dm F S C la T1 E1 D1 F1 S1 C1 la1 Lo Se Ef gp gi am li dl).set (38 + j) (b (4 + j), .inl (cI, 6, .inl X)) = wC cI cZ cO x a t b ck Ho T E Dm F S C la T1 E1 D1 F1 S1 C1 la1 Lo Se (va_up Ef j X) gp gi am li dl := by
  refine rws_set3 (N := 38) ?_ hj
  rw [rws_len, rws_len]
  rfl
set_option maxRecDepth 100000 in
theorem wC_hallC : pA.map (fun i => (wC cI cZ cO x a t b ck Ho T E Dm F S C la T1 E1 D1 F1 S1 C1 la1 Lo Se Ef gp gi am li dl)[i]?) = (wH cI cZ cO a b T E Dm F S C la Lo Se Ef gp gi am li dl).map some := rfl
set_option maxRecDepth 100000 in
theorem wC_tryC : pT.map (fun i => (wC cI cZ cO x a t b ck Ho T E Dm F S C la T1 E1 D1 F1 S1 C1 la1 Lo Se Ef gp gi am li dl)[i]?) = (wH cI cZ cO t b T1 E1 D1 F1 S1 C1 la1 Lo Se Ef gp gi am li dl).map some := rfl
set_option maxRecDepth 100000 in
theorem wC_hallrest : pAR.map (fun i => (wC cI cZ cO x a t b ck Ho T E Dm F S C la T1 E1 D1 F1 S1 C1 la1 Lo Se Ef gp gi am li dl)[i]?) = (([(x 0, .inr (2, [.ref (b 0), .ref (a 0), .ref (t 0), .ref (x 1), .int (nI ck)])), (x 1, .inl (cI, 6, .inl Ho)), (t 0, .inr (0, [.ref (t 1), .ref (t 2), .ref (t 3), .ref (t 4), .ref (t 5), .ref (t 6), .int (nI la1)])), (t 1, .inl (cI, 6, .inl T1)), (t 2, .inl (cI, 6, .inl E1)), (t 3, .inl (cI, 6, .inl D1)), (t 4, .inl (cZ, 8, .inl F1)), (t 5, .inl (cI, 8, .inl S1)), (t 6, .inl (cO, 9, .inr (.inr (.inr (.inr (fun i => some (t (7 + i))))))))] : va_W) ++ (rws cI 8 9 (fun k => t (7 + k)) C1 ++ [])).map some := rfl
set_option maxRecDepth 100000 in
theorem wC_tryrest : pTR.map (fun i => (wC cI cZ cO x a t b ck Ho T E Dm F S C la T1 E1 D1 F1 S1 C1 la1 Lo Se Ef gp gi am li dl)[i]?) = (([(x 0, .inr (2, [.ref (b 0), .ref (a 0), .ref (t 0), .ref (x 1), .int (nI ck)])), (x 1, .inl (cI, 6, .inl Ho)), (a 0, .inr (0, [.ref (a 1), .ref (a 2), .ref (a 3), .ref (a 4), .ref (a 5), .ref (a 6), .int (nI la)])), (a 1, .inl (cI, 6, .inl T)), (a 2, .inl (cI, 6, .inl E)), (a 3, .inl (cI, 6, .inl Dm)), (a 4, .inl (cZ, 8, .inl F)), (a 5, .inl (cI, 8, .inl S)), (a 6, .inl (cO, 9, .inr (.inr (.inr (.inr (fun i => some (a (7 + i))))))))] : va_W) ++ (rws cI 8 9 (fun k => a (7 + k)) C ++ [])).map some := rfl
theorem wC_hallR {T2 E2 D2 F2 S2 : Nat → Int32} {C2 : Nat → Nat → Int32} {la2 : Nat} : pAR.map (fun i => (wC cI cZ cO x a t b ck Ho T2 E2 D2 F2 S2 C2 la2 T1 E1 D1 F1 S1 C1 la1 Lo Se Ef gp gi am li dl)[i]?) = pAR.map (fun i => (wC cI cZ cO x a t b ck Ho T E Dm F S C la T1 E1 D1 F1 S1 C1 la1 Lo Se Ef gp gi am li dl)[i]?) := wC_hallrest.trans wC_hallrest.symm
theorem wC_hallF {T2 E2 D2 F2 S2 : Nat → Int32} {C2 : Nat → Nat → Int32} {la2 : Nat} : (wC cI cZ cO x a t b ck Ho T2 E2 D2 F2 S2 C2 la2 T1 E1 D1 F1 S1 C1 la1 Lo Se Ef gp gi am li dl).map (·.1) = (wC cI cZ cO x a t b ck Ho T E Dm F S C la T1 E1 D1 F1 S1 C1 la1 Lo Se Ef gp gi am li dl).map (·.1) := by
  unfold wC
  simp only [List.map_append, List.map_cons, List.map_nil, rws_fst]
theorem wC_tryR {T2 E2 D2 F2 S2 : Nat → Int32} {C2 : Nat → Nat → Int32} {la2 : Nat} : pTR.map (fun i => (wC cI cZ cO x a t b ck Ho T E Dm F S C la T2 E2 D2 F2 S2 C2 la2 Lo Se Ef gp gi am li dl)[i]?) = pTR.map (fun i => (wC cI cZ cO x a t b ck Ho T E Dm F S C la T1 E1 D1 F1 S1 C1 la1 Lo Se Ef gp gi am li dl)[i]?) := wC_tryrest.trans wC_tryrest.symm
theorem wC_tryF {T2 E2 D2 F2 S2 : Nat → Int32} {C2 : Nat → Nat → Int32} {la2 : Nat} : (wC cI cZ cO x a t b ck Ho T E Dm F S C la T2 E2 D2 F2 S2 C2 la2 Lo Se Ef gp gi am li dl).map (·.1) = (wC cI cZ cO x a t b ck Ho T E Dm F S C la T1 E1 D1 F1 S1 C1 la1 Lo Se Ef gp gi am li dl).map (·.1) := by
  unfold wC
  simp only [List.map_append, List.map_cons, List.map_nil, rws_fst]
theorem wC_len : (wC cI cZ cO x a t b ck Ho T E Dm F S C la T1 E1 D1 F1 S1 C1 la1 Lo Se Ef gp gi am li dl).length = 46 := rfl
end WC
