/-! part di: a clause of the class ends -/
theorem c_87 {t : Nat → Nat} {n a e q e0 m : Nat} {S : St} (hS : Cs t n a e q S) (h12 : gI S 12 = nI m) (he : e0 < 400) : ∃ V, f_X7_readClause_87 (nI (2 * e0)) S = some (nI 1, V) ∧ Cs t n a e q V ∧ gI V 12 = nI m ∧ Fr [] [] [24] [] S V ∧ gA V 24 (2 * e0 + 1) = nI (2 * e) ∧ ∀ i, i ≠ 2 * e0 + 1 → gA V 24 i = gA S 24 i := by
  obtain ⟨V, g1, g2, g3, g4⟩ := e_lead (S := S) (e := e0) (by omega)
  refine ⟨V, ?_, ⟨hS.1.fr g2 rfl rfl rfl rfl rfl rfl, (g2.I rfl).trans hS.2.1, (g2.I rfl).trans hS.2.2.1, hS.2.2.2⟩, (g2.I rfl).trans h12, g2, (g4 he).trans hS.2.1, g3⟩
  unfold f_X7_readClause_87
  rw [g1]
  rfl
theorem c_57no {t : Nat → Nat} {n a e q e0 m : Nat} {S : St} (hS : Cs t n a e q S) (h12 : gI S 12 = nI m) (he : e0 < e) (he4 : e < 400) (hw : isW t n a 13 = false) : ∃ V, f_X7_readClause_57 (nI (2 * e0)) S = some (nI 1, V) ∧ Cs t n a (e + 1) q V ∧ gI V 12 = nI m ∧ Fr [10] [] [24] [] S V ∧ gA V 24 (2 * e0 + 1) = nI (2 * (e + 1)) ∧ Fc (gA V 24) e = dC (nI 4) (nI 1) ∧ ∀ i, i < 2 * e → i ≠ 2 * e0 + 1 → gA V 24 i = gA S 24 i := by
  obtain ⟨V, g1, g2, g3, g4, g5⟩ := e_put hS.2.1 hS.2.2.2.1 (nI 4) (nI 1)
  rw [show min (e + 1) 400 = e + 1 by omega] at g3
  obtain ⟨w1, w2⟩ := g5 he4
  have c2 : Cs t n a (e + 1) q V := ⟨hS.1.fr g2 rfl rfl rfl rfl rfl rfl, g3, (g2.I rfl).trans hS.2.2.1, by omega, hS.2.2.2.2⟩
  obtain ⟨W, d1, d2, d3, d4, d5, d6⟩ := c_87 (e0 := e0) c2 ((g2.I rfl).trans h12) (by omega)
  refine ⟨W, ?_, d2, d3, g2.trans (d4.mono rfl rfl rfl rfl), d5, ?_, fun i hi hne => by rw [d6 i hne, g4 i hi]⟩
  · unfold f_X7_readClause_57
    rw [e_sees hS.1 (by decide), hw]
    simp (disch := omega) only [k_let, Option.bind_some, ↓reduceIte, eq_self, true_or, or_true, n01_0, n01_1, kb_or, kb_0T, kb_0F, vn_0, vn_1, vn_k, nl_0, nl_1, nl_2, nl_3, nl_4, nl_5, nl_6, nl_7, nl_8, nl_9, nl_10, nl_11, nl_12, nl_13, nl_14, nl_15, nl_16, nl_20, nl_21, nl_22, nl_23, nl_24, nl_25, nl_26, nl_27, nl_28, nl_29, nl_30, nl_31, nl_32, nl_40, nl_41, nl_42, nl_43, nl_45, nl_47, nl_48, nl_50, nl_57, nl_59, nl_60, nl_61, nl_62, nl_63, nl_64, nl_91, nl_93, nl_94, nl_97, nl_98, nl_100, nl_110, nl_122, nl_130, nl_144, nl_160, nl_240, nl_241, nl_255, nl_256, nl_400, nl_800, nl_900, nl_999, nl_1000, nl_1001, nl_1024, nl_1103, nl_1928, nl_4321, nl_5560, nl_12345, nl_1000000, nl_1000003, nl_252645135, nl_858993459, nl_1431655765, nl_1000000000, nI_add, pk_mul, n_sub, n_neg, n_cl, leT, leF, ltT, ltF, eqT, eqF, kbT, s_II, s_In, s_IJ, s_IA, s_IL, s_IR, s_IC, s_JI, s_JJ, s_Jn, s_JA, s_JL, s_JR, s_JC, s_AI, s_AJ, s_AA, s_An, s_AL, s_AR, s_AC, s_LI, s_LJ, s_LA, s_LL, s_Ln, s_LR, s_LC, kB_f, g1]
    exact d1
  · exact Fc_at (by rw [d6 _ (by omega)]; exact w1) (by rw [d6 _ (by omega)]; exact w2)
