/-! part dd: a clause's expressions on the reference's side -/
def Mc (t : Nat → Nat) (n a c q m : Nat) (U : St) : Prop :=
  Mtk t n a U ∧ gI U 41 = nI 0 ∧ gI U 42 = nI m ∧ gI U 43 = nI c ∧ gI U 44 = nI q ∧ c ≤ a ∧ (∀ i, i < 7 → gL U 62 i = lZ (wdL.getD i 0)) ∧ ∀ i, i < 3 → gL U 63 i = lZ (hdL.getD i 0)
theorem Mc.x {t : Nat → Nat} {n a c q m : Nat} {U : St} (h : Mc t n a c q m U) : Mxp t n a a c q 0 [] (sI (sI U 45 (nI 0)) 46 (nI 0)) ∧ FM U (sI (sI U 45 (nI 0)) 46 (nI 0)) ∧ Fx (sI (sI U 45 (nI 0)) 46 (nI 0)) = Fx U := by
  obtain ⟨h1, h2, h3, h4, h5, h6, h7, h8⟩ := h
  have f : Fr [45, 46] [] [] [] U (sI (sI U 45 (nI 0)) 46 (nI 0)) := ((Fr.refl U).sI rfl _).sI rfl _
  have hn := h1.1.1
  have ha := h1.2.1
  exact ⟨⟨h1.fr f rfl rfl rfl rfl rfl rfl, (f.I rfl).trans h2, (f.I rfl).trans h4, (f.I rfl).trans h5, (s_In (by decide)).trans (s_II _ _ _), s_II _ _ _, trivial, fun x hx => absurd hx List.not_mem_nil, by show c + 0 ≤ a; omega, by omega, h7⟩, f.mono rfl rfl rfl rfl, rfl⟩
theorem Mc.back {t : Nat → Nat} {n a c q m a1 c1 q1 : Nat} {U T : St} (h : Mc t n a c q m U) (f : FM U T) (g : Mxp t n a1 a1 c1 q1 0 [] T) : Mc t n a1 c1 q1 m T := by
  obtain ⟨h1, h2, h3, h4, h5, h6, h7, h8⟩ := h
  obtain ⟨g1, g2, g3, g4, g5, g6, g7, g8, g9, g10, g11⟩ := g
  have g9 : c1 + 0 ≤ a1 := g9
  exact ⟨g1, g2, (f.I rfl).trans h3, g3, g4, by omega, g11, fun i hi => by rw [f.L rfl]; exact h8 i hi⟩
theorem Mc.sum {t : Nat → Nat} {n a c q m a1 q1 : Nat} {δ : Den} {U : St} (h : Mc t n a c q m U) (hk : MOk t n 0 1 3 5 5 0 a q a1 q1 δ) (hN : NoA t n a1) : ∃ T c1, f_X12_readExpression (nI 0) U = some T ∧ Mc t n a1 c1 q1 m T ∧ FM U T ∧ (∀ p, p < c → Fx T p = Fx U p) ∧ Cm (Fx T) c c1 δ (q1 - q) := by
  obtain ⟨m1, f1, x1⟩ := h.x
  obtain ⟨T, c1, e2, m2, f2, l2, cm⟩ := m_sum m1 hk hN
  refine ⟨T, c1, ?_, h.back (f1.trans f2) m2, f1.trans f2, fun p hp => by rw [l2 p hp, x1], cm⟩
  unfold f_X12_readExpression f_X12_readExpression_19
  simp (disch := omega) only [k_let, Option.bind_some, ↓reduceIte, eq_self, true_or, or_true, n01_0, n01_1, kb_or, kb_0T, kb_0F, vn_0, vn_1, vn_k, nl_0, nl_1, nl_2, nl_3, nl_4, nl_5, nl_6, nl_7, nl_8, nl_9, nl_10, nl_11, nl_12, nl_13, nl_14, nl_15, nl_16, nl_20, nl_21, nl_22, nl_23, nl_24, nl_25, nl_26, nl_27, nl_28, nl_29, nl_30, nl_31, nl_32, nl_40, nl_41, nl_42, nl_43, nl_45, nl_47, nl_48, nl_50, nl_57, nl_59, nl_60, nl_61, nl_62, nl_63, nl_64, nl_91, nl_93, nl_94, nl_97, nl_98, nl_100, nl_110, nl_122, nl_130, nl_144, nl_160, nl_240, nl_241, nl_255, nl_256, nl_400, nl_800, nl_900, nl_999, nl_1000, nl_1001, nl_1024, nl_1103, nl_1928, nl_4321, nl_5560, nl_12345, nl_1000000, nl_1000003, nl_252645135, nl_858993459, nl_1431655765, nl_1000000000]
  exact e2
theorem Mc.test {t : Nat → Nat} {n a c q m a1 q1 : Nat} {δ : Den} {U : St} (h : Mc t n a c q m U) (hk : MOk t n 1 0 2 1 1 0 a q a1 q1 δ) (h4 : isW t n a1 4 = false) (h5 : isW t n a1 5 = false) : ∃ T c1, f_X12_readExpression (nI 1) U = some T ∧ Mc t n a1 c1 q1 m T ∧ FM U T ∧ (∀ p, p < c → Fx T p = Fx U p) ∧ Cm (Fx T) c c1 δ (q1 - q) := by
  obtain ⟨m1, f1, x1⟩ := h.x
  obtain ⟨T, c1, e2, m2, f2, l2, cm⟩ := m_test m1 hk h4 h5
  refine ⟨T, c1, ?_, h.back (f1.trans f2) m2, f1.trans f2, fun p hp => by rw [l2 p hp, x1], cm⟩
  unfold f_X12_readExpression f_X12_readExpression_19
  simp (disch := omega) only [k_let, Option.bind_some, ↓reduceIte, eq_self, true_or, or_true, n01_0, n01_1, kb_or, kb_0T, kb_0F, vn_0, vn_1, vn_k, nl_0, nl_1, nl_2, nl_3, nl_4, nl_5, nl_6, nl_7, nl_8, nl_9, nl_10, nl_11, nl_12, nl_13, nl_14, nl_15, nl_16, nl_20, nl_21, nl_22, nl_23, nl_24, nl_25, nl_26, nl_27, nl_28, nl_29, nl_30, nl_31, nl_32, nl_40, nl_41, nl_42, nl_43, nl_45, nl_47, nl_48, nl_50, nl_57, nl_59, nl_60, nl_61, nl_62, nl_63, nl_64, nl_91, nl_93, nl_94, nl_97, nl_98, nl_100, nl_110, nl_122, nl_130, nl_144, nl_160, nl_240, nl_241, nl_255, nl_256, nl_400, nl_800, nl_900, nl_999, nl_1000, nl_1001, nl_1024, nl_1103, nl_1928, nl_4321, nl_5560, nl_12345, nl_1000000, nl_1000003, nl_252645135, nl_858993459, nl_1431655765, nl_1000000000, nI_add, pk_mul, n_sub, n_neg, n_cl, leT, leF, ltT, ltF, eqT, eqF, kbT, s_II, s_In, s_IJ, s_IA, s_IL, s_IR, s_IC, s_JI, s_JJ, s_Jn, s_JA, s_JL, s_JR, s_JC, s_AI, s_AJ, s_AA, s_An, s_AL, s_AR, s_AC, s_LI, s_LJ, s_LA, s_LL, s_Ln, s_LR, s_LC]
  exact e2
theorem Mc.sumF {t : Nat → Nat} {n a c q m af : Nat} {U : St} (h : Mc t n a c q m U) (hk : MFl t n 0 1 3 5 0 a q af) : ∃ T, f_X12_readExpression (nI 0) U = some T ∧ gI T 41 = nI 1 ∧ gI T 40 = nI af ∧ FMb U T ∧ ∃ c, c ≤ 400 ∧ gI T 43 = nI c := by
  obtain ⟨m1, f1, x1⟩ := h.x
  obtain ⟨T, e2, g1, g2, g3, g4⟩ := m_bad (t := t) h.1.1.1 (hk c [] _ m1 (fun x K z => by cases z) (fun z => absurd z (by decide)))
  refine ⟨T, ?_, g1, g2, FM.b f1 g3, g4⟩
  unfold f_X12_readExpression f_X12_readExpression_19
  simp (disch := omega) only [k_let, Option.bind_some, ↓reduceIte, eq_self, true_or, or_true, n01_0, n01_1, kb_or, kb_0T, kb_0F, vn_0, vn_1, vn_k, nl_0, nl_1, nl_2, nl_3, nl_4, nl_5, nl_6, nl_7, nl_8, nl_9, nl_10, nl_11, nl_12, nl_13, nl_14, nl_15, nl_16, nl_20, nl_21, nl_22, nl_23, nl_24, nl_25, nl_26, nl_27, nl_28, nl_29, nl_30, nl_31, nl_32, nl_40, nl_41, nl_42, nl_43, nl_45, nl_47, nl_48, nl_50, nl_57, nl_59, nl_60, nl_61, nl_62, nl_63, nl_64, nl_91, nl_93, nl_94, nl_97, nl_98, nl_100, nl_110, nl_122, nl_130, nl_144, nl_160, nl_240, nl_241, nl_255, nl_256, nl_400, nl_800, nl_900, nl_999, nl_1000, nl_1001, nl_1024, nl_1103, nl_1928, nl_4321, nl_5560, nl_12345, nl_1000000, nl_1000003, nl_252645135, nl_858993459, nl_1431655765, nl_1000000000]
  exact e2
theorem Mc.testF {t : Nat → Nat} {n a c q m af : Nat} {U : St} (h : Mc t n a c q m U) (hk : MFl t n 1 0 2 1 0 a q af) : ∃ T, f_X12_readExpression (nI 1) U = some T ∧ gI T 41 = nI 1 ∧ gI T 40 = nI af ∧ FMb U T ∧ ∃ c, c ≤ 400 ∧ gI T 43 = nI c := by
  obtain ⟨m1, f1, x1⟩ := h.x
  obtain ⟨T, e2, g1, g2, g3, g4⟩ := m_bad (t := t) h.1.1.1 (hk c [] _ m1 (fun x K z => by cases z) (fun _ => Or.inr ⟨rfl, rfl⟩))
  refine ⟨T, ?_, g1, g2, FM.b f1 g3, g4⟩
  unfold f_X12_readExpression f_X12_readExpression_19
  simp (disch := omega) only [k_let, Option.bind_some, ↓reduceIte, eq_self, true_or, or_true, n01_0, n01_1, kb_or, kb_0T, kb_0F, vn_0, vn_1, vn_k, nl_0, nl_1, nl_2, nl_3, nl_4, nl_5, nl_6, nl_7, nl_8, nl_9, nl_10, nl_11, nl_12, nl_13, nl_14, nl_15, nl_16, nl_20, nl_21, nl_22, nl_23, nl_24, nl_25, nl_26, nl_27, nl_28, nl_29, nl_30, nl_31, nl_32, nl_40, nl_41, nl_42, nl_43, nl_45, nl_47, nl_48, nl_50, nl_57, nl_59, nl_60, nl_61, nl_62, nl_63, nl_64, nl_91, nl_93, nl_94, nl_97, nl_98, nl_100, nl_110, nl_122, nl_130, nl_144, nl_160, nl_240, nl_241, nl_255, nl_256, nl_400, nl_800, nl_900, nl_999, nl_1000, nl_1001, nl_1024, nl_1103, nl_1928, nl_4321, nl_5560, nl_12345, nl_1000000, nl_1000003, nl_252645135, nl_858993459, nl_1431655765, nl_1000000000, nI_add, pk_mul, n_sub, n_neg, n_cl, leT, leF, ltT, ltF, eqT, eqF, kbT, s_II, s_In, s_IJ, s_IA, s_IL, s_IR, s_IC, s_JI, s_JJ, s_Jn, s_JA, s_JL, s_JR, s_JC, s_AI, s_AJ, s_AA, s_An, s_AL, s_AR, s_AC, s_LI, s_LJ, s_LA, s_LL, s_Ln, s_LR, s_LC]
  exact e2
