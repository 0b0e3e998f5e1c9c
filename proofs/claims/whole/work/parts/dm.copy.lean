/-! part dm: the reference keeps a law -/
theorem l_145 {b m : Nat} (hb : b ≤ 4660) (hm : m ≤ 12) : ∀ (j f k : Nat) (U : St), k + j = 8 * m → j < f → gI U 42 = nI m → ∃ T, f_X12_law_145 f (nI b) (nI k) U = f_X12_law_180 FU (nI b) (nI 0) T ∧ Fr [] [] [53] [] U T ∧ ∀ i, gA T 53 i = if b + 2 + k ≤ i ∧ i < b + 2 + 8 * m then gA U 57 (i - (b + 2)) else gA U 53 i := by
  intro j
  induction j with
  | zero =>
    intro f k U hk hf h42
    obtain ⟨f, rfl⟩ : ∃ j, f = j + 1 := ⟨f - 1, by omega⟩
    refine ⟨U, ?_, Fr.refl U, fun i => by rw [if_neg (by omega)]⟩
    rw [f_X12_law_145]
    simp (disch := omega) only [k_let, Option.bind_some, ↓reduceIte, eq_self, true_or, or_true, n01_0, n01_1, kb_or, kb_0T, kb_0F, vn_0, vn_1, vn_k, nl_0, nl_1, nl_2, nl_3, nl_4, nl_5, nl_6, nl_7, nl_8, nl_9, nl_10, nl_11, nl_12, nl_13, nl_14, nl_15, nl_16, nl_20, nl_21, nl_22, nl_23, nl_24, nl_25, nl_26, nl_27, nl_28, nl_29, nl_30, nl_31, nl_32, nl_40, nl_41, nl_42, nl_43, nl_45, nl_47, nl_48, nl_50, nl_57, nl_59, nl_60, nl_61, nl_62, nl_63, nl_64, nl_91, nl_93, nl_94, nl_97, nl_98, nl_100, nl_110, nl_122, nl_130, nl_144, nl_160, nl_240, nl_241, nl_255, nl_256, nl_400, nl_800, nl_900, nl_999, nl_1000, nl_1001, nl_1024, nl_1103, nl_1928, nl_4321, nl_5560, nl_12345, nl_1000000, nl_1000003, nl_252645135, nl_858993459, nl_1431655765, nl_1000000000, nI_add, pk_mul, n_sub, n_neg, n_cl, leT, leF, ltT, ltF, eqT, eqF, kbT, s_II, s_In, s_IJ, s_IA, s_IL, s_IR, s_IC, s_JI, s_JJ, s_Jn, s_JA, s_JL, s_JR, s_JC, s_AI, s_AJ, s_AA, s_An, s_AL, s_AR, s_AC, s_LI, s_LJ, s_LA, s_LL, s_Ln, s_LR, s_LC, h42]
  | succ j ih =>
    intro f k U hk hf h42
    obtain ⟨f, rfl⟩ : ∃ j, f = j + 1 := ⟨f - 1, by omega⟩
    obtain ⟨T, e1, e2, e3⟩ := ih f (k + 1) (sA U 53 (b + 2 + k) (gA U 57 k)) (by omega) (by omega) h42
    refine ⟨T, ?_, ((Fr.refl U).sA rfl _ _).trans e2, fun i => ?_⟩
    · rw [f_X12_law_145]
      simp (disch := omega) only [k_let, Option.bind_some, ↓reduceIte, eq_self, true_or, or_true, n01_0, n01_1, kb_or, kb_0T, kb_0F, vn_0, vn_1, vn_k, nl_0, nl_1, nl_2, nl_3, nl_4, nl_5, nl_6, nl_7, nl_8, nl_9, nl_10, nl_11, nl_12, nl_13, nl_14, nl_15, nl_16, nl_20, nl_21, nl_22, nl_23, nl_24, nl_25, nl_26, nl_27, nl_28, nl_29, nl_30, nl_31, nl_32, nl_40, nl_41, nl_42, nl_43, nl_45, nl_47, nl_48, nl_50, nl_57, nl_59, nl_60, nl_61, nl_62, nl_63, nl_64, nl_91, nl_93, nl_94, nl_97, nl_98, nl_100, nl_110, nl_122, nl_130, nl_144, nl_160, nl_240, nl_241, nl_255, nl_256, nl_400, nl_800, nl_900, nl_999, nl_1000, nl_1001, nl_1024, nl_1103, nl_1928, nl_4321, nl_5560, nl_12345, nl_1000000, nl_1000003, nl_252645135, nl_858993459, nl_1431655765, nl_1000000000, nI_add, pk_mul, n_sub, n_neg, n_cl, leT, leF, ltT, ltF, eqT, eqF, kbT, s_II, s_In, s_IJ, s_IA, s_IL, s_IR, s_IC, s_JI, s_JJ, s_Jn, s_JA, s_JL, s_JR, s_JC, s_AI, s_AJ, s_AA, s_An, s_AL, s_AR, s_AC, s_LI, s_LJ, s_LA, s_LL, s_Ln, s_LR, s_LC, h42]
      exact e1
    · rw [e3 i, s_AA, u_a]
      have z : gA (sA U 53 (b + 2 + k) (gA U 57 k)) 57 = gA U 57 := s_An (by decide)
      rw [z]
      by_cases c : b + 2 + k ≤ i ∧ i < b + 2 + 8 * m
      · rw [if_pos c]
        by_cases c2 : b + 2 + (k + 1) ≤ i ∧ i < b + 2 + 8 * m
        · rw [if_pos c2]
        · rw [if_neg c2, if_pos (show i = b + 2 + k by omega), show i - (b + 2) = k by omega]
      · rw [if_neg c, if_neg (by omega), if_neg (by omega)]
theorem l_180 {b c L : Nat} (hb : b ≤ 4660) (hb2 : 160 ≤ b) (hc : c ≤ 400) (hL : L < 6) : ∀ (j f k : Nat) (U : St), k + j = c → j < f → gI U 43 = nI c → gA U 53 2 = nI L → ∃ T, f_X12_law_180 f (nI b) (nI k) U = some (nI L, sI (sA T 53 2 (nI (L + 1))) 34 (nI 0)) ∧ Fr [] [] [53] [] U T ∧ (∀ p, k ≤ p → p < c → gA T 53 (b + 98 + 2 * p) = gA U 58 p ∧ gA T 53 (b + 98 + 2 * p + 1) = gA U 59 p) ∧ ∀ i, (i < b + 98 + 2 * k ∨ b + 98 + 2 * c ≤ i) → gA T 53 i = gA U 53 i := by
  intro j
  induction j with
  | zero =>
    intro f k U hk hf h43 h2
    obtain ⟨f, rfl⟩ : ∃ j, f = j + 1 := ⟨f - 1, by omega⟩
    refine ⟨U, ?_, Fr.refl U, fun p p1 p2 => by omega, fun i _ => rfl⟩
    rw [f_X12_law_180]
    simp (disch := omega) only [k_let, Option.bind_some, ↓reduceIte, eq_self, true_or, or_true, n01_0, n01_1, kb_or, kb_0T, kb_0F, vn_0, vn_1, vn_k, nl_0, nl_1, nl_2, nl_3, nl_4, nl_5, nl_6, nl_7, nl_8, nl_9, nl_10, nl_11, nl_12, nl_13, nl_14, nl_15, nl_16, nl_20, nl_21, nl_22, nl_23, nl_24, nl_25, nl_26, nl_27, nl_28, nl_29, nl_30, nl_31, nl_32, nl_40, nl_41, nl_42, nl_43, nl_45, nl_47, nl_48, nl_50, nl_57, nl_59, nl_60, nl_61, nl_62, nl_63, nl_64, nl_91, nl_93, nl_94, nl_97, nl_98, nl_100, nl_110, nl_122, nl_130, nl_144, nl_160, nl_240, nl_241, nl_255, nl_256, nl_400, nl_800, nl_900, nl_999, nl_1000, nl_1001, nl_1024, nl_1103, nl_1928, nl_4321, nl_5560, nl_12345, nl_1000000, nl_1000003, nl_252645135, nl_858993459, nl_1431655765, nl_1000000000, nI_add, pk_mul, n_sub, n_neg, n_cl, leT, leF, ltT, ltF, eqT, eqF, kbT, s_II, s_In, s_IJ, s_IA, s_IL, s_IR, s_IC, s_JI, s_JJ, s_Jn, s_JA, s_JL, s_JR, s_JC, s_AI, s_AJ, s_AA, s_An, s_AL, s_AR, s_AC, s_LI, s_LJ, s_LA, s_LL, s_Ln, s_LR, s_LC, h43, h2, u_s, e_telN, Nat.add_sub_cancel]
  | succ j ih =>
    intro f k U hk hf h43 h2
    obtain ⟨f, rfl⟩ : ∃ j, f = j + 1 := ⟨f - 1, by omega⟩
    have h2' : gA (sA (sA U 53 (b + 98 + 2 * k) (gA U 58 k)) 53 (b + 98 + 2 * k + 1) (gA U 59 k)) 53 2 = nI L := by
      rw [s_AA, u_a, if_neg (by omega), s_AA, u_a, if_neg (by omega)]
      exact h2
    obtain ⟨T, e1, e2, e3, e4⟩ := ih f (k + 1) (sA (sA U 53 (b + 98 + 2 * k) (gA U 58 k)) 53 (b + 98 + 2 * k + 1) (gA U 59 k)) (by omega) (by omega) h43 h2'
    refine ⟨T, ?_, (((Fr.refl U).sA rfl _ _).sA rfl _ _).trans e2, fun p p1 p2 => ?_, fun i hi => ?_⟩
    · rw [f_X12_law_180]
      simp (disch := omega) only [k_let, Option.bind_some, ↓reduceIte, eq_self, true_or, or_true, n01_0, n01_1, kb_or, kb_0T, kb_0F, vn_0, vn_1, vn_k, nl_0, nl_1, nl_2, nl_3, nl_4, nl_5, nl_6, nl_7, nl_8, nl_9, nl_10, nl_11, nl_12, nl_13, nl_14, nl_15, nl_16, nl_20, nl_21, nl_22, nl_23, nl_24, nl_25, nl_26, nl_27, nl_28, nl_29, nl_30, nl_31, nl_32, nl_40, nl_41, nl_42, nl_43, nl_45, nl_47, nl_48, nl_50, nl_57, nl_59, nl_60, nl_61, nl_62, nl_63, nl_64, nl_91, nl_93, nl_94, nl_97, nl_98, nl_100, nl_110, nl_122, nl_130, nl_144, nl_160, nl_240, nl_241, nl_255, nl_256, nl_400, nl_800, nl_900, nl_999, nl_1000, nl_1001, nl_1024, nl_1103, nl_1928, nl_4321, nl_5560, nl_12345, nl_1000000, nl_1000003, nl_252645135, nl_858993459, nl_1431655765, nl_1000000000, nI_add, pk_mul, n_sub, n_neg, n_cl, leT, leF, ltT, ltF, eqT, eqF, kbT, s_II, s_In, s_IJ, s_IA, s_IL, s_IR, s_IC, s_JI, s_JJ, s_Jn, s_JA, s_JL, s_JR, s_JC, s_AI, s_AJ, s_AA, s_An, s_AL, s_AR, s_AC, s_LI, s_LJ, s_LA, s_LL, s_Ln, s_LR, s_LC, h43]
      exact e1
    · by_cases q : p = k
      · subst q
        refine ⟨?_, ?_⟩
        · rw [e4 _ (by omega), s_AA, u_a, if_neg (by omega), s_AA, u_a, if_pos rfl]
        · rw [e4 _ (by omega), s_AA, u_a, if_pos rfl]
      · exact e3 p (by omega) p2
    · rw [e4 i (by omega), s_AA, u_a, if_neg (by omega), s_AA, u_a, if_neg (by omega)]
theorem m_97 {L m c : Nat} {T : St} (h41 : gI T 41 = nI 0) (h42 : gI T 42 = nI m) (h43 : gI T 43 = nI c) (hm : m ≤ 12) (hc : c ≤ 400) (h2 : gA T 53 2 = nI L) (hL : L < 6) : ∃ W, f_X12_law_97 T = some (nI L, W) ∧ Fr [34, 36] [] [53] [] T W ∧ gI W 34 = nI 0 ∧ gI W 36 = nI 0 ∧ gA W 53 2 = nI (L + 1) ∧ gA W 53 (160 + 900 * L + 1) = nI m ∧ (∀ i, i < 8 * m → gA W 53 (160 + 900 * L + 2 + i) = gA T 57 i) ∧ (∀ p, p < c → gA W 53 (160 + 900 * L + 98 + 2 * p) = gA T 58 p ∧ gA W 53 (160 + 900 * L + 98 + 2 * p + 1) = gA T 59 p) ∧ ∀ i, i ≠ 2 → i < 160 + 900 * L → gA W 53 i = gA T 53 i := by
  have F1 : 1000 < FU := FU_ge (by decide)
  have e : f_X12_law_97 T = f_X12_law_145 FU (nI (160 + 900 * L)) (nI 0) (sA (sI T 36 (nI 0)) 53 (160 + 900 * L + 1) (nI m)) := by
    unfold f_X12_law_97
    simp (disch := omega) only [k_let, Option.bind_some, ↓reduceIte, eq_self, true_or, or_true, n01_0, n01_1, kb_or, kb_0T, kb_0F, vn_0, vn_1, vn_k, nl_0, nl_1, nl_2, nl_3, nl_4, nl_5, nl_6, nl_7, nl_8, nl_9, nl_10, nl_11, nl_12, nl_13, nl_14, nl_15, nl_16, nl_20, nl_21, nl_22, nl_23, nl_24, nl_25, nl_26, nl_27, nl_28, nl_29, nl_30, nl_31, nl_32, nl_40, nl_41, nl_42, nl_43, nl_45, nl_47, nl_48, nl_50, nl_57, nl_59, nl_60, nl_61, nl_62, nl_63, nl_64, nl_91, nl_93, nl_94, nl_97, nl_98, nl_100, nl_110, nl_122, nl_130, nl_144, nl_160, nl_240, nl_241, nl_255, nl_256, nl_400, nl_800, nl_900, nl_999, nl_1000, nl_1001, nl_1024, nl_1103, nl_1928, nl_4321, nl_5560, nl_12345, nl_1000000, nl_1000003, nl_252645135, nl_858993459, nl_1431655765, nl_1000000000, nI_add, pk_mul, n_sub, n_neg, n_cl, leT, leF, ltT, ltF, eqT, eqF, kbT, s_II, s_In, s_IJ, s_IA, s_IL, s_IR, s_IC, s_JI, s_JJ, s_Jn, s_JA, s_JL, s_JR, s_JC, s_AI, s_AJ, s_AA, s_An, s_AL, s_AR, s_AC, s_LI, s_LJ, s_LA, s_LL, s_Ln, s_LR, s_LC, h41, h42, h2]
  obtain ⟨V, v1, v2, v3⟩ := l_145 (b := 160 + 900 * L) (m := m) (by omega) hm (8 * m) FU 0 (sA (sI T 36 (nI 0)) 53 (160 + 900 * L + 1) (nI m)) (by omega) (by omega) h42
  have hV2 : gA V 53 2 = nI L := by
    rw [v3, if_neg (by omega), s_AA, u_a, if_neg (by omega)]
    exact h2
  have f0 : Fr [36] [] [53] [] T V := (((Fr.refl T).sI (k := 36) rfl _).sA rfl _ _).trans (v2.mono rfl rfl rfl rfl)
  obtain ⟨W, w1, w2, w3, w4⟩ := l_180 (b := 160 + 900 * L) (c := c) (L := L) (by omega) (by omega) hc hL c FU 0 V (by omega) (by omega) ((f0.I rfl).trans h43) hV2
  have fW : Fr [36] [] [53] [] T W := f0.trans (w2.mono rfl rfl rfl rfl)
  have low : ∀ i, i ≠ 2 → i < 160 + 900 * L + 98 → gA (sI (sA W 53 2 (nI (L + 1))) 34 (nI 0)) 53 i = gA V 53 i := fun i h1 h3 => by
    rw [s_IA, s_AA, u_a, if_neg h1]
    exact w4 i (by omega)
  refine ⟨sI (sA W 53 2 (nI (L + 1))) 34 (nI 0), ?_, ((fW.mono rfl rfl rfl rfl : Fr [34, 36] [] [53] [] T W).sA rfl _ _).sI rfl _, s_II _ _ _, ?_, ?_, ?_, fun i hi => ?_, fun p hp => ?_, fun i h1 h3 => ?_⟩
  · rw [e, v1]
    exact w1
  · rw [s_In (by decide), s_AI, w2.I rfl, v2.I rfl, s_AI, s_II]
  · rw [s_IA, s_AA, u_a, if_pos rfl]
  · rw [low _ (by omega) (by omega), v3, if_neg (by omega), s_AA, u_a, if_pos rfl]
  · rw [low _ (by omega) (by omega), v3, if_pos (by omega), s_An (by decide), s_IA, show 160 + 900 * L + 2 + i - (160 + 900 * L + 2) = i by omega]
  · obtain ⟨q1, q2⟩ := w3 p (Nat.zero_le p) hp
    rw [s_IA, s_AA, u_a, if_neg (by omega), u_a, if_neg (by omega), q1, q2, f0.A rfl, f0.A rfl]
    exact ⟨rfl, rfl⟩
  · rw [low i h1 (by omega), v3, if_neg (by omega), s_AA, u_a, if_neg (by omega)]
    rfl
theorem m_97no {T : St} (h41 : gI T 41 = nI 1) : f_X12_law_97 T = some (iZ (-((6 : Nat) : Int)), tlT (iZ (-((6 : Nat) : Int))) 6 (sI T 36 (nI 0))) := by
  unfold f_X12_law_97
  simp (disch := omega) only [k_let, Option.bind_some, ↓reduceIte, eq_self, true_or, or_true, n01_0, n01_1, kb_or, kb_0T, kb_0F, vn_0, vn_1, vn_k, nl_0, nl_1, nl_2, nl_3, nl_4, nl_5, nl_6, nl_7, nl_8, nl_9, nl_10, nl_11, nl_12, nl_13, nl_14, nl_15, nl_16, nl_20, nl_21, nl_22, nl_23, nl_24, nl_25, nl_26, nl_27, nl_28, nl_29, nl_30, nl_31, nl_32, nl_40, nl_41, nl_42, nl_43, nl_45, nl_47, nl_48, nl_50, nl_57, nl_59, nl_60, nl_61, nl_62, nl_63, nl_64, nl_91, nl_93, nl_94, nl_97, nl_98, nl_100, nl_110, nl_122, nl_130, nl_144, nl_160, nl_240, nl_241, nl_255, nl_256, nl_400, nl_800, nl_900, nl_999, nl_1000, nl_1001, nl_1024, nl_1103, nl_1928, nl_4321, nl_5560, nl_12345, nl_1000000, nl_1000003, nl_252645135, nl_858993459, nl_1431655765, nl_1000000000, nI_add, pk_mul, n_sub, n_neg, n_cl, leT, leF, ltT, ltF, eqT, eqF, kbT, s_II, s_In, s_IJ, s_IA, s_IL, s_IR, s_IC, s_JI, s_JJ, s_Jn, s_JA, s_JL, s_JR, s_JC, s_AI, s_AJ, s_AA, s_An, s_AL, s_AR, s_AC, s_LI, s_LJ, s_LA, s_LL, s_Ln, s_LR, s_LC, zleT, zleF, zltT, zltF, zeqT, zeqF, nzleT, nzleF, nzltT, nzltF, nzeqT, nzeqF, znleT, znleF, znltT, znltF, zneqT, zneqF, z_add, z_sub, z_mul, z_neg, z_an, z_na, z_sn, z_ns, z_mn, z_nm, Nat.add_sub_cancel, decide_true, decide_false, and_self, e_done, e_ref1, e_ref2, e_ref3, e_ref5, e_ref6, e_tel1, e_tel2, e_tel3, e_tel5, e_tel6, e_telN, rfT_m, h41]
theorem Acc.law {m e c : Nat} {a b g : Nat → Int32} {U : St} (h : Acc m e c a U) (hm : m ≤ 12) (he : e ≤ 400) (hc : c ≤ 400) (g1 : g 1 = nI m) (gr : ∀ i, i < 8 * m → g (2 + i) = gA U 57 i) (gF : ∀ p, p < c → Fm g p = Fx U p) (hb : ∀ k, k < 2 * e → b k = a k) : LawP (2 * e) b g := by
  obtain ⟨kd, pc, ds, dt, p0, p1, h⟩ := h
  refine ⟨m, kd, pc, ds, dt, hm, p0, by rw [p1], by omega, g1, fun i hi => ?_⟩
  obtain ⟨q1, q2, q3, q4, k0, x, j, l, k1, k2, k3, k4, k5, k6, k7, k8, k9⟩ := h i hi
  have row : ∀ o, o < 8 → g (2 + 8 * i + o) = gA U 57 (8 * i + o) := fun o ho => by
    rw [Nat.add_assoc]
    exact gr _ (by omega)
  refine ⟨q2, q3, q4.row (fun k hk => hb k (by omega)), (row 0 (by decide)).trans k0, x, j, j, l, by omega, (row 3 (by decide)).trans k2, (row 4 (by decide)).trans k3, (row 5 (by decide)).trans k4, (row 6 (by decide)).trans k5, k6, Nat.le_refl _, k7, fun z => (k8 z).congr (fun p _ hp => gF p (by omega)), ?_⟩
  rcases k9 with ⟨z1, z2⟩ | z
  · exact Or.inl ⟨z1, z2.congr (fun p _ hp => gF p (by omega))⟩
  · exact Or.inr z
