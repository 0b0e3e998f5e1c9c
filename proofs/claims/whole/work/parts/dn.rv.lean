/-! part dn: a law more -/
theorem rv_law {I I' : Nat → Int32} {A A' : Nat → Nat → Int32} {L L' : Nat → Nat} {C C' : List (Nat × (Nat → Int32))} {r r' : Nat → Int32} (hv : Rv I A L C r) (hL : rN r 2 < 6) (h2 : r' 2 = nI (rN r 2 + 1)) (h : ∀ i, i ≠ 2 → i < 160 + 900 * rN r 2 → r' i = r i) (hI : ∀ i, i < 8 → i ≠ 3 → I' i = I i) (hI3 : I' 3 = nI (rN r 2 + 1)) (hA : ∀ j, j < 15 → A' j = A j) (hC : ∀ l, l < rN r 2 → LawR C (L l) (fun i => r (160 + 900 * l + i)) → LawR C' (L' l) (fun i => r (160 + 900 * l + i))) (hnew : LawR C' (L' (rN r 2)) (fun i => r' (160 + 900 * rN r 2 + i))) : Rv I' A' L' C' r' := by
  have hN : ∀ i, i ≠ 2 → i < 160 → rN r' i = rN r i := fun i h1 hi => by unfold rN; rw [h i h1 (by omega)]
  have hr : ∀ i, i ≠ 2 → i < 160 → r' i = r i := fun i h1 hi => h i h1 (by omega)
  obtain ⟨n2, e2⟩ := isN_v (m := 7) h2 (by omega) (by decide)
  obtain ⟨w, ⟨c0, c1, c2, c3, c4, c5, c6, c7⟩, c8, c9, c10, c11, c12, c13⟩ := hv
  have w1 := w.n16
  have w0 := w.t6
  have hn : nD r = rN r 1 := rfl
  obtain ⟨a0, a1, a2, a3, a4, a5, a6, a7, a8, a9, a10, a11, a12⟩ := w
  have b0 := a0.2
  have b4 := a4.2
  have b5 := a5.2
  have b6 := a6.2
  refine ⟨⟨a0.row (hr _ (by decide) (by decide)), a1.row (hr _ (by decide) (by decide)), n2, ?_, a4.row (hr _ (by decide) (by decide)), a5.row (hr _ (by decide) (by decide)), a6.row (hr _ (by decide) (by decide)), a7.row (hr _ (by decide) (by decide)), fun i hi => ?_, fun d hd => ?_, fun d hd => ?_, fun d hd => ?_, fun d hd => ?_⟩, ⟨?_, ?_, ?_, ?_, ?_, ?_, ?_, ?_⟩, fun i hi => ?_, fun d hd => ?_, fun d hd => ?_, fun d hd => ?_, fun d hd => ?_, fun l hl => ?_⟩
  · rw [e2, hr 3 (by decide) (by decide)]
    rcases a3 with z | z
    · exact Or.inl z
    · have z := z.row (hr 3 (by decide) (by decide))
      exact Or.inr ⟨z.1, by have := z.2; omega⟩
  · rw [hN 0 (by decide) (by decide)] at hi
    obtain ⟨p, q⟩ := a8 i hi
    exact ⟨p.row (hr _ (by omega) (by omega)), by rw [hN _ (by omega) (by omega)]; exact q⟩
  · rw [hN 1 (by decide) (by decide)] at hd
    obtain ⟨p1, p2, p3, p4, p5, p6, p7⟩ := a9 d hd
    unfold dHa at p6
    unfold dOw dCr at p7
    refine ⟨p1.row (hr _ (by omega) (by omega)), p2.row (hr _ (by omega) (by omega)), by rw [hN 0 (by decide) (by decide)]; exact p3.row (hr _ (by omega) (by omega)), p4.row (hr _ (by omega) (by omega)), p5.row (hr _ (by omega) (by omega)), ?_, ?_⟩
    · unfold dHa; rw [hN _ (by omega) (by omega)]; exact p6
    · unfold dOw dCr; rw [hN _ (by omega) (by omega), hN _ (by omega) (by omega)]; exact p7
  · rw [hN 4 (by decide) (by decide)] at hd
    obtain ⟨p1, p2⟩ := a10 d hd
    exact ⟨p1.row (hr _ (by omega) (by omega)), p2.row (hr _ (by omega) (by omega))⟩
  · rw [hN 5 (by decide) (by decide)] at hd
    obtain ⟨p1, p2⟩ := a11 d hd
    exact ⟨p1.row (hr _ (by omega) (by omega)), by rw [hN 0 (by decide) (by decide)]; exact p2.row (hr _ (by omega) (by omega))⟩
  · rw [hN 6 (by decide) (by decide)] at hd
    obtain ⟨p1, p2, p3⟩ := a12 d hd
    refine ⟨by rw [hN 5 (by decide) (by decide)]; exact p1.row (hr _ (by omega) (by omega)), by rw [hN 5 (by decide) (by decide)]; exact p2.row (hr _ (by omega) (by omega)), ?_⟩
    rw [hN _ (by omega) (by omega), hN _ (by omega) (by omega)]
    exact p3
  · rw [hI 0 (by decide) (by decide), hr 0 (by decide) (by decide)]; exact c0
  · rw [hI 1 (by decide) (by decide), hr 1 (by decide) (by decide)]; exact c1
  · rw [hI 2 (by decide) (by decide), hr 7 (by decide) (by decide)]; exact c2
  · rw [hI3, h2]
  · rw [hI 4 (by decide) (by decide), hr 3 (by decide) (by decide)]; exact c4
  · rw [hI 5 (by decide) (by decide), hr 4 (by decide) (by decide)]; exact c5
  · rw [hI 6 (by decide) (by decide), hr 5 (by decide) (by decide)]; exact c6
  · rw [hI 7 (by decide) (by decide), hr 6 (by decide) (by decide)]; exact c7
  · rw [hN 0 (by decide) (by decide)] at hi
    rw [hA 1 (by decide), hr _ (by omega) (by omega)]
    exact c8 i hi
  · rw [hN 1 (by decide) (by decide)] at hd
    rw [hA 3 (by decide), hA 4 (by decide), hA 5 (by decide), hA 6 (by decide), hA 7 (by decide), hr _ (by omega) (by omega), hr (14 + 5 * d + 1) (by omega) (by omega), hr (14 + 5 * d + 2) (by omega) (by omega), hr (14 + 5 * d + 3) (by omega) (by omega), hr (14 + 5 * d + 4) (by omega) (by omega)]
    exact c9 d hd
  · rw [hN 4 (by decide) (by decide)] at hd
    rw [hA 9 (by decide), hA 10 (by decide), hr (94 + 2 * d) (by omega) (by omega), hr (94 + 2 * d + 1) (by omega) (by omega)]
    exact c10 d hd
  · rw [hN 5 (by decide) (by decide)] at hd
    rw [hA 11 (by decide), hA 12 (by decide), hr (110 + 2 * d) (by omega) (by omega), hr (110 + 2 * d + 1) (by omega) (by omega)]
    exact c11 d hd
  · rw [hN 6 (by decide) (by decide)] at hd
    rw [hA 13 (by decide), hA 14 (by decide), hr (130 + 2 * d) (by omega) (by omega), hr (130 + 2 * d + 1) (by omega) (by omega)]
    exact c12 d hd
  · rw [e2] at hl
    by_cases q : l = rN r 2
    · rw [q]; exact hnew
    · have hl2 : l < rN r 2 := by omega
      refine (hC l hl2 (c13 l hl2)).row (fun i hi => ?_)
      exact h _ (by omega) (by omega)
/-- a code more, told by law place l of the village -/
def cdS (S : St) (l : Nat) (x : Nat × (Nat → Int32)) : St := sR (sC S (gC S ++ [x])) 0 l ((gC S).length + 1)
theorem cd_C (S : St) (l : Nat) (x : Nat × (Nat → Int32)) : gC (cdS S l x) = gC S ++ [x] := rfl
theorem cd_R0 (S : St) (l : Nat) (x : Nat × (Nat → Int32)) : gR (cdS S l x) 0 = k_up (gR S 0) l ((gC S).length + 1) := rfl
theorem cd_Rn (S : St) (l : Nat) (x : Nat × (Nat → Int32)) {k : Nat} (h : k ≠ 0) : gR (cdS S l x) k = gR S k := if_neg h
theorem cd_fr {ci cj ca cl : List Nat} {S T : St} (f : Fr ci cj ca cl S T) (l : Nat) (x : Nat × (Nat → Int32)) : Fr ci cj ca cl (cdS S l x) (cdS T l x) := by
  obtain ⟨f1, f2, f3, f4, f5, f6⟩ := f
  refine ⟨f1, f2, f3, f4, fun k => ?_, ?_⟩
  · by_cases q : k = 0
    · subst q
      rw [cd_R0, cd_R0, f5, f6]
    · rw [cd_Rn _ _ _ q, cd_Rn _ _ _ q, f5]
  · rw [cd_C, cd_C, f6]
theorem Inv.cd {S : St} (h : Inv S) {l : Nat} (hl : rN (gA S 53) 2 ≤ l) (x : Nat × (Nat → Int32)) : Inv (cdS S l x) := by
  obtain ⟨⟨w, c0, c8, c9, c10, c11, c12, c13⟩, t, s, rf, pp, ⟨m0, m1⟩, g1, g2, g3, kv1, kv2⟩ := h
  have im : ∀ k, Im S k → Im (cdS S l x) k := fun k g => by
    rcases g with ⟨h1, h2⟩ | ⟨h1, h2, h3⟩
    · exact Or.inl ⟨by rw [cd_Rn _ _ _ (by decide)]; exact h1, h2⟩
    · exact Or.inr ⟨by rw [cd_Rn _ _ _ (by decide)]; exact h1, h2, by rw [cd_Rn _ _ _ (by omega)]; exact h3.app x⟩
  refine ⟨⟨w, c0, c8, c9, c10, c11, c12, fun q hq => ?_⟩, t, s, rf, pp, ⟨im 0 m0, im 1 m1⟩, g1, g2, g3, fun i hi => ?_, fun i hi => ?_⟩
  · have hq : q < rN (gA S 53) 2 := hq
    rw [cd_R0, k_un (by omega), cd_C]
    exact (c13 q hq).app x
  · obtain ⟨k1, k2, k3⟩ := kv1 i hi
    rw [cd_C, cd_R0, cd_Rn _ _ _ (by decide), cd_Rn _ _ _ (by decide), List.length_append, List.length_singleton]
    refine ⟨?_, by omega, by omega⟩
    by_cases q : i = l
    · subst q
      rw [k_us]
      exact Nat.le_refl _
    · rw [k_un q]
      omega
  · rw [cd_Rn _ _ _ (by decide)]
    exact kv2 i hi
