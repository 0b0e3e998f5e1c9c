/-! part b1: a row of the reference counts by its first 5560 places -/
theorem LawP.row {n : Nat} {a g g' : Nat → Int32} (h : LawP n a g) (e : ∀ i, i < 900 → g' i = g i) : LawP n a g' := by
  obtain ⟨nc, kd, pc, ds, dt, l1, l2, l3, l4, l5, l6⟩ := h
  have eF : ∀ p, p < 400 → Fm g' p = Fm g p := fun p hp => by
    unfold Fm
    rw [e _ (by omega), e _ (by omega)]
  refine ⟨nc, kd, pc, ds, dt, l1, l2, l3, l4, (e 1 (by decide)).trans l5, fun c hc => ?_⟩
  obtain ⟨m1, m2, m3, m4, i, j, k, l, q0, q1, q2, q3, q4, q5, q6, q7, q8, q9⟩ := l6 c hc
  refine ⟨m1, m2, m3, (e _ (by omega)).trans m4, i, j, k, l, q0, (e _ (by omega)).trans q1, (e _ (by omega)).trans q2, (e _ (by omega)).trans q3, (e _ (by omega)).trans q4, q5, q6, q7, fun z => (q8 z).congr (fun p _ hp => eF p (by omega)), ?_⟩
  rcases q9 with ⟨z1, z2⟩ | z
  · exact Or.inl ⟨z1, z2.congr (fun p _ hp => eF p (by omega))⟩
  · exact Or.inr z
theorem LawR.row {C : List (Nat × (Nat → Int32))} {q : Nat} {g g' : Nat → Int32} (h : LawR C q g) (e : ∀ i, i < 900 → g' i = g i) : LawR C q g' := by
  obtain ⟨h0, x, hx, hp⟩ := h
  exact ⟨h0, x, hx, hp.row e⟩
theorem isN.row {r r' : Nat → Int32} {i m : Nat} (h : isN r i m) (e : r' i = r i) : isN r' i m := by
  unfold isN rN at *
  rw [e]; exact h
theorem Wf.row {r r' : Nat → Int32} (w : Wf r) (h : ∀ i, i < 5560 → r' i = r i) : Wf r' := by
  have hN : ∀ i, i < 5560 → rN r' i = rN r i := fun i hi => by unfold rN; rw [h i hi]
  have w1 := w.n16
  have hn : nD r = rN r 1 := rfl
  obtain ⟨a0, a1, a2, a3, a4, a5, a6, a7, a8, a9, a10, a11, a12⟩ := w
  have b0 := a0.2
  have b4 := a4.2
  have b5 := a5.2
  have b6 := a6.2
  refine ⟨a0.row (h _ (by decide)), a1.row (h _ (by decide)), a2.row (h _ (by decide)), ?_, a4.row (h _ (by decide)), a5.row (h _ (by decide)), a6.row (h _ (by decide)), a7.row (h _ (by decide)), fun i hi => ?_, fun d hd => ?_, fun d hd => ?_, fun d hd => ?_, fun d hd => ?_⟩
  · rw [hN 2 (by decide), h 3 (by decide)]
    rcases a3 with z | z
    · exact Or.inl z
    · exact Or.inr (z.row (h _ (by decide)))
  · rw [hN 0 (by decide)] at hi
    obtain ⟨p, q⟩ := a8 i hi
    exact ⟨p.row (h _ (by omega)), by rw [hN _ (by omega)]; exact q⟩
  · rw [hN 1 (by decide)] at hd
    obtain ⟨p1, p2, p3, p4, p5, p6, p7⟩ := a9 d hd
    unfold dHa at p6
    unfold dOw dCr at p7
    refine ⟨p1.row (h _ (by omega)), p2.row (h _ (by omega)), by rw [hN 0 (by decide)]; exact p3.row (h _ (by omega)), p4.row (h _ (by omega)), p5.row (h _ (by omega)), ?_, ?_⟩
    · unfold dHa; rw [hN _ (by omega)]; exact p6
    · unfold dOw dCr; rw [hN _ (by omega), hN _ (by omega)]; exact p7
  · rw [hN 4 (by decide)] at hd
    obtain ⟨p1, p2⟩ := a10 d hd
    exact ⟨p1.row (h _ (by omega)), p2.row (h _ (by omega))⟩
  · rw [hN 5 (by decide)] at hd
    obtain ⟨p1, p2⟩ := a11 d hd
    exact ⟨p1.row (h _ (by omega)), by rw [hN 0 (by decide)]; exact p2.row (h _ (by omega))⟩
  · rw [hN 6 (by decide)] at hd
    obtain ⟨p1, p2, p3⟩ := a12 d hd
    refine ⟨by rw [hN 5 (by decide)]; exact p1.row (h _ (by omega)), by rw [hN 5 (by decide)]; exact p2.row (h _ (by omega)), ?_⟩
    rw [hN _ (by omega), hN _ (by omega)]
    exact p3
theorem Rv.row {I : Nat → Int32} {A : Nat → Nat → Int32} {L : Nat → Nat} {C : List (Nat × (Nat → Int32))} {r r' : Nat → Int32} (hv : Rv I A L C r) (h : ∀ i, i < 5560 → r' i = r i) : Rv I A L C r' := by
  have hN : ∀ i, i < 5560 → rN r' i = rN r i := fun i hi => by unfold rN; rw [h i hi]
  obtain ⟨w, ⟨c0, c1, c2, c3, c4, c5, c6, c7⟩, c8, c9, c10, c11, c12, c13⟩ := hv
  have w0 := w.t6
  have w1 := w.n16
  have w2 := w.2.2.1.2
  have w4 := w.2.2.2.2.1.2
  have w5 := w.2.2.2.2.2.1.2
  have w6 := w.2.2.2.2.2.2.1.2
  have hn : nD r = rN r 1 := rfl
  refine ⟨w.row h, ⟨c0.trans (h _ (by decide)).symm, c1.trans (h _ (by decide)).symm, c2.trans (h _ (by decide)).symm, c3.trans (h _ (by decide)).symm, c4.trans (h _ (by decide)).symm, c5.trans (h _ (by decide)).symm, c6.trans (h _ (by decide)).symm, c7.trans (h _ (by decide)).symm⟩, fun i hi => ?_, fun d hd => ?_, fun d hd => ?_, fun d hd => ?_, fun d hd => ?_, fun l hl => ?_⟩
  · rw [hN 0 (by decide)] at hi
    exact (c8 i hi).trans (h _ (by omega)).symm
  · rw [hN 1 (by decide)] at hd
    obtain ⟨a, b, c, e, f⟩ := c9 d hd
    exact ⟨a.trans (h _ (by omega)).symm, b.trans (h _ (by omega)).symm, c.trans (h _ (by omega)).symm, e.trans (h _ (by omega)).symm, f.trans (h _ (by omega)).symm⟩
  · rw [hN 4 (by decide)] at hd
    obtain ⟨a, b⟩ := c10 d hd
    exact ⟨a.trans (h _ (by omega)).symm, b.trans (h _ (by omega)).symm⟩
  · rw [hN 5 (by decide)] at hd
    obtain ⟨a, b⟩ := c11 d hd
    exact ⟨a.trans (h _ (by omega)).symm, b.trans (h _ (by omega)).symm⟩
  · rw [hN 6 (by decide)] at hd
    obtain ⟨a, b⟩ := c12 d hd
    exact ⟨a.trans (h _ (by omega)).symm, b.trans (h _ (by omega)).symm⟩
  · rw [hN 2 (by decide)] at hl
    exact (c13 l hl).row (fun i hi => h _ (by omega))
/-! the reference's copies -/
theorem l_mimg {k : Nat} (hk : k < 2) {S : St} : ∀ (m f i : Nat) (U : St), i + m = 5560 → m < f → Fr [] [] [54] [] S U → (∀ j, gA U 54 j = if 5560 * k ≤ j ∧ j < 5560 * k + i then gA S 53 (j - 5560 * k) else gA S 54 j) →
    ∃ W, f_X12_image_23 f (nI k) (nI i) U = some (nI 0, sI (sA W 55 k (nI 1)) 34 (nI 0)) ∧ Fr [] [] [54] [] S W ∧ ∀ j, gA W 54 j = if 5560 * k ≤ j ∧ j < 5560 * k + 5560 then gA S 53 (j - 5560 * k) else gA S 54 j := by
  intro m
  induction m with
  | zero =>
    intro f i U hi hf hF hR
    obtain ⟨f, rfl⟩ : ∃ g, f = g + 1 := ⟨f - 1, by omega⟩
    have : i = 5560 := by omega
    subst this
    refine ⟨U, ?_, hF, hR⟩
    have e1 : vp_nar .boolean (nI 1) = nI 1 := rfl
    rw [f_X12_image_23]
    simp (disch := omega) only [k_let, Option.bind_some, ↓reduceIte, eq_self, true_or, or_true, n01_0, n01_1, kb_or, kb_0T, kb_0F, vn_0, vn_1, vn_k, nl_0, nl_1, nl_2, nl_3, nl_4, nl_5, nl_6, nl_7, nl_8, nl_9, nl_10, nl_11, nl_12, nl_13, nl_14, nl_15, nl_16, nl_20, nl_21, nl_22, nl_23, nl_24, nl_25, nl_26, nl_27, nl_28, nl_29, nl_30, nl_31, nl_32, nl_40, nl_41, nl_42, nl_43, nl_45, nl_47, nl_48, nl_50, nl_57, nl_59, nl_60, nl_61, nl_62, nl_63, nl_64, nl_91, nl_93, nl_94, nl_97, nl_98, nl_100, nl_110, nl_122, nl_130, nl_144, nl_160, nl_240, nl_241, nl_255, nl_256, nl_400, nl_800, nl_900, nl_999, nl_1000, nl_1001, nl_1024, nl_1103, nl_1928, nl_4321, nl_5560, nl_12345, nl_1000000, nl_1000003, nl_252645135, nl_858993459, nl_1431655765, nl_1000000000, nI_add, pk_mul, n_sub, n_neg, n_cl, leT, leF, ltT, ltF, eqT, eqF, kbT, s_II, s_In, s_IJ, s_IA, s_IL, s_IR, s_IC, s_JI, s_JJ, s_Jn, s_JA, s_JL, s_JR, s_JC, s_AI, s_AJ, s_AA, s_An, s_AL, s_AR, s_AC, s_LI, s_LJ, s_LA, s_LL, s_Ln, s_LR, s_LC, zleT, zleF, zltT, zltF, zeqT, zeqF, nzleT, nzleF, nzltT, nzltF, nzeqT, nzeqF, znleT, znleF, znltT, znltF, zneqT, zneqF, z_add, z_sub, z_mul, z_neg, z_an, z_na, z_sn, z_ns, z_mn, z_nm, Nat.add_sub_cancel, decide_true, decide_false, and_self, e_done, e_ref1, e_ref2, e_ref3, e_ref5, e_ref6, e_tel1, e_tel2, e_tel3, e_tel5, e_tel6, e_telN, rfT_m, e1]
  | succ m ih =>
    intro f i U hi hf hF hR
    obtain ⟨f, rfl⟩ : ∃ g, f = g + 1 := ⟨f - 1, by omega⟩
    have e53 : gA U 53 i = gA S 53 i := by rw [hF.A (k := 53) rfl]
    obtain ⟨W, w1, w2, w3⟩ := ih f (i + 1) (sA U 54 (5560 * k + i) (gA S 53 i)) (by omega) (by omega) (hF.sA rfl _ _) (fun j => by
      rw [s_AA, u_a]
      by_cases q : j = 5560 * k + i
      · rw [if_pos q, if_pos (by omega), show j - 5560 * k = i by omega]
      · rw [if_neg q, hR j]
        by_cases z : 5560 * k ≤ j ∧ j < 5560 * k + i
        · rw [if_pos z, if_pos (by omega)]
        · rw [if_neg z, if_neg (by omega)])
    refine ⟨W, ?_, w2, w3⟩
    rw [← w1, f_X12_image_23]
    simp (disch := omega) only [k_let, Option.bind_some, ↓reduceIte, eq_self, true_or, or_true, n01_0, n01_1, kb_or, kb_0T, kb_0F, vn_0, vn_1, vn_k, nl_0, nl_1, nl_2, nl_3, nl_4, nl_5, nl_6, nl_7, nl_8, nl_9, nl_10, nl_11, nl_12, nl_13, nl_14, nl_15, nl_16, nl_20, nl_21, nl_22, nl_23, nl_24, nl_25, nl_26, nl_27, nl_28, nl_29, nl_30, nl_31, nl_32, nl_40, nl_41, nl_42, nl_43, nl_45, nl_47, nl_48, nl_50, nl_57, nl_59, nl_60, nl_61, nl_62, nl_63, nl_64, nl_91, nl_93, nl_94, nl_97, nl_98, nl_100, nl_110, nl_122, nl_130, nl_144, nl_160, nl_240, nl_241, nl_255, nl_256, nl_400, nl_800, nl_900, nl_999, nl_1000, nl_1001, nl_1024, nl_1103, nl_1928, nl_4321, nl_5560, nl_12345, nl_1000000, nl_1000003, nl_252645135, nl_858993459, nl_1431655765, nl_1000000000, nI_add, pk_mul, n_sub, n_neg, n_cl, leT, leF, ltT, ltF, eqT, eqF, kbT, s_II, s_In, s_IJ, s_IA, s_IL, s_IR, s_IC, s_JI, s_JJ, s_Jn, s_JA, s_JL, s_JR, s_JC, s_AI, s_AJ, s_AA, s_An, s_AL, s_AR, s_AC, s_LI, s_LJ, s_LA, s_LL, s_Ln, s_LR, s_LC, e53]
theorem l_mback {k : Nat} (hk : k < 2) {S : St} : ∀ (m f i : Nat) (U : St), i + m = 5560 → m < f → Fr [] [] [53] [] S U → (∀ j, gA U 53 j = if j < i then gA S 54 (5560 * k + j) else gA S 53 j) →
    ∃ W, f_X12_back_39 f (nI k) (nI i) U = some (nI 0, sI W 34 (nI 0)) ∧ Fr [] [] [53] [] S W ∧ ∀ j, j < 5560 → gA W 53 j = gA S 54 (5560 * k + j) := by
  intro m
  induction m with
  | zero =>
    intro f i U hi hf hF hR
    obtain ⟨f, rfl⟩ : ∃ g, f = g + 1 := ⟨f - 1, by omega⟩
    have : i = 5560 := by omega
    subst this
    refine ⟨U, ?_, hF, fun j hj => by rw [hR j, if_pos hj]⟩
    rw [f_X12_back_39]
    simp (disch := omega) only [k_let, Option.bind_some, ↓reduceIte, eq_self, true_or, or_true, n01_0, n01_1, kb_or, kb_0T, kb_0F, vn_0, vn_1, vn_k, nl_0, nl_1, nl_2, nl_3, nl_4, nl_5, nl_6, nl_7, nl_8, nl_9, nl_10, nl_11, nl_12, nl_13, nl_14, nl_15, nl_16, nl_20, nl_21, nl_22, nl_23, nl_24, nl_25, nl_26, nl_27, nl_28, nl_29, nl_30, nl_31, nl_32, nl_40, nl_41, nl_42, nl_43, nl_45, nl_47, nl_48, nl_50, nl_57, nl_59, nl_60, nl_61, nl_62, nl_63, nl_64, nl_91, nl_93, nl_94, nl_97, nl_98, nl_100, nl_110, nl_122, nl_130, nl_144, nl_160, nl_240, nl_241, nl_255, nl_256, nl_400, nl_800, nl_900, nl_999, nl_1000, nl_1001, nl_1024, nl_1103, nl_1928, nl_4321, nl_5560, nl_12345, nl_1000000, nl_1000003, nl_252645135, nl_858993459, nl_1431655765, nl_1000000000, nI_add, pk_mul, n_sub, n_neg, n_cl, leT, leF, ltT, ltF, eqT, eqF, kbT, s_II, s_In, s_IJ, s_IA, s_IL, s_IR, s_IC, s_JI, s_JJ, s_Jn, s_JA, s_JL, s_JR, s_JC, s_AI, s_AJ, s_AA, s_An, s_AL, s_AR, s_AC, s_LI, s_LJ, s_LA, s_LL, s_Ln, s_LR, s_LC, zleT, zleF, zltT, zltF, zeqT, zeqF, nzleT, nzleF, nzltT, nzltF, nzeqT, nzeqF, znleT, znleF, znltT, znltF, zneqT, zneqF, z_add, z_sub, z_mul, z_neg, z_an, z_na, z_sn, z_ns, z_mn, z_nm, Nat.add_sub_cancel, decide_true, decide_false, and_self, e_done, e_ref1, e_ref2, e_ref3, e_ref5, e_ref6, e_tel1, e_tel2, e_tel3, e_tel5, e_tel6, e_telN, rfT_m]
  | succ m ih =>
    intro f i U hi hf hF hR
    obtain ⟨f, rfl⟩ : ∃ g, f = g + 1 := ⟨f - 1, by omega⟩
    have e54 : gA U 54 (5560 * k + i) = gA S 54 (5560 * k + i) := by rw [hF.A (k := 54) rfl]
    obtain ⟨W, w1, w2, w3⟩ := ih f (i + 1) (sA U 53 i (gA S 54 (5560 * k + i))) (by omega) (by omega) (hF.sA rfl _ _) (fun j => by
      rw [s_AA, u_a]
      by_cases q : j = i
      · rw [if_pos q, if_pos (by omega), q]
      · rw [if_neg q, hR j]
        by_cases z : j < i
        · rw [if_pos z, if_pos (by omega)]
        · rw [if_neg z, if_neg (by omega)])
    refine ⟨W, ?_, w2, w3⟩
    rw [← w1, f_X12_back_39]
    simp (disch := omega) only [k_let, Option.bind_some, ↓reduceIte, eq_self, true_or, or_true, n01_0, n01_1, kb_or, kb_0T, kb_0F, vn_0, vn_1, vn_k, nl_0, nl_1, nl_2, nl_3, nl_4, nl_5, nl_6, nl_7, nl_8, nl_9, nl_10, nl_11, nl_12, nl_13, nl_14, nl_15, nl_16, nl_20, nl_21, nl_22, nl_23, nl_24, nl_25, nl_26, nl_27, nl_28, nl_29, nl_30, nl_31, nl_32, nl_40, nl_41, nl_42, nl_43, nl_45, nl_47, nl_48, nl_50, nl_57, nl_59, nl_60, nl_61, nl_62, nl_63, nl_64, nl_91, nl_93, nl_94, nl_97, nl_98, nl_100, nl_110, nl_122, nl_130, nl_144, nl_160, nl_240, nl_241, nl_255, nl_256, nl_400, nl_800, nl_900, nl_999, nl_1000, nl_1001, nl_1024, nl_1103, nl_1928, nl_4321, nl_5560, nl_12345, nl_1000000, nl_1000003, nl_252645135, nl_858993459, nl_1431655765, nl_1000000000, nI_add, pk_mul, n_sub, n_neg, n_cl, leT, leF, ltT, ltF, eqT, eqF, kbT, s_II, s_In, s_IJ, s_IA, s_IL, s_IR, s_IC, s_JI, s_JJ, s_Jn, s_JA, s_JL, s_JR, s_JC, s_AI, s_AJ, s_AA, s_An, s_AL, s_AR, s_AC, s_LI, s_LJ, s_LA, s_LL, s_Ln, s_LR, s_LC, e54]
