/-! part de: a clause's record begun -/
noncomputable def tl75 (x1 : Int32) (b : Nat) (S : St) : Option St :=
  k_let (sA S 57 b x1) fun S2 => k_let (sI S2 42 ((gI S2 42) + (1 : Int32))) fun S3 => k_let (sA S3 57 (b + 3) (gI S3 43)) fun S5 => if x1 = 0 then (f_X12_readExpression (0 : Int32) S5).bind fun q131 => f_X12_readClause_134 (nI b) q131 else f_X12_readClause_134 (nI b) S5
theorem l_z8 {x1 : Int32} {b : Nat} (hb : b ≤ 88) : ∀ (m f k : Nat) (U : St), k + m = 8 → m < f → ∃ T, f_X12_readClause_75 f x1 (nI b) (nI k) U = tl75 x1 b T ∧ Fr [] [] [57] [] U T ∧ ∀ i, gA T 57 i = if b + k ≤ i ∧ i < b + 8 then nI 0 else gA U 57 i := by
  intro m
  induction m with
  | zero =>
    intro f k U hk hf
    obtain ⟨f, rfl⟩ : ∃ j, f = j + 1 := ⟨f - 1, by omega⟩
    refine ⟨U, ?_, Fr.refl U, fun i => by rw [if_neg (by omega)]⟩
    rw [f_X12_readClause_75]
    unfold tl75
    simp (disch := omega) only [k_let, Option.bind_some, ↓reduceIte, eq_self, true_or, or_true, n01_0, n01_1, kb_or, kb_0T, kb_0F, vn_0, vn_1, vn_k, nl_0, nl_1, nl_2, nl_3, nl_4, nl_5, nl_6, nl_7, nl_8, nl_9, nl_10, nl_11, nl_12, nl_13, nl_14, nl_15, nl_16, nl_20, nl_21, nl_22, nl_23, nl_24, nl_25, nl_26, nl_27, nl_28, nl_29, nl_30, nl_31, nl_32, nl_40, nl_41, nl_42, nl_43, nl_45, nl_47, nl_48, nl_50, nl_57, nl_59, nl_60, nl_61, nl_62, nl_63, nl_64, nl_91, nl_93, nl_94, nl_97, nl_98, nl_100, nl_110, nl_122, nl_130, nl_144, nl_160, nl_240, nl_241, nl_255, nl_256, nl_400, nl_800, nl_900, nl_999, nl_1000, nl_1001, nl_1024, nl_1103, nl_1928, nl_4321, nl_5560, nl_12345, nl_1000000, nl_1000003, nl_252645135, nl_858993459, nl_1431655765, nl_1000000000, nI_add, pk_mul, n_sub, n_neg, n_cl, leT, leF, ltT, ltF, eqT, eqF, kbT, s_II, s_In, s_IJ, s_IA, s_IL, s_IR, s_IC, s_JI, s_JJ, s_Jn, s_JA, s_JL, s_JR, s_JC, s_AI, s_AJ, s_AA, s_An, s_AL, s_AR, s_AC, s_LI, s_LJ, s_LA, s_LL, s_Ln, s_LR, s_LC]
  | succ m ih =>
    intro f k U hk hf
    obtain ⟨f, rfl⟩ : ∃ j, f = j + 1 := ⟨f - 1, by omega⟩
    obtain ⟨T, e1, e2, e3⟩ := ih f (k + 1) (sA U 57 (b + k) (nI 0)) (by omega) (by omega)
    refine ⟨T, ?_, ((Fr.refl U).sA rfl _ _).trans e2, fun i => ?_⟩
    · rw [f_X12_readClause_75]
      simp (disch := omega) only [k_let, Option.bind_some, ↓reduceIte, eq_self, true_or, or_true, n01_0, n01_1, kb_or, kb_0T, kb_0F, vn_0, vn_1, vn_k, nl_0, nl_1, nl_2, nl_3, nl_4, nl_5, nl_6, nl_7, nl_8, nl_9, nl_10, nl_11, nl_12, nl_13, nl_14, nl_15, nl_16, nl_20, nl_21, nl_22, nl_23, nl_24, nl_25, nl_26, nl_27, nl_28, nl_29, nl_30, nl_31, nl_32, nl_40, nl_41, nl_42, nl_43, nl_45, nl_47, nl_48, nl_50, nl_57, nl_59, nl_60, nl_61, nl_62, nl_63, nl_64, nl_91, nl_93, nl_94, nl_97, nl_98, nl_100, nl_110, nl_122, nl_130, nl_144, nl_160, nl_240, nl_241, nl_255, nl_256, nl_400, nl_800, nl_900, nl_999, nl_1000, nl_1001, nl_1024, nl_1103, nl_1928, nl_4321, nl_5560, nl_12345, nl_1000000, nl_1000003, nl_252645135, nl_858993459, nl_1431655765, nl_1000000000, nI_add, pk_mul, n_sub, n_neg, n_cl, leT, leF, ltT, ltF, eqT, eqF, kbT, s_II, s_In, s_IJ, s_IA, s_IL, s_IR, s_IC, s_JI, s_JJ, s_Jn, s_JA, s_JL, s_JR, s_JC, s_AI, s_AJ, s_AA, s_An, s_AL, s_AR, s_AC, s_LI, s_LJ, s_LA, s_LL, s_Ln, s_LR, s_LC]
      exact e1
    · rw [e3 i, s_AA, u_a]
      by_cases c : b + k ≤ i ∧ i < b + 8
      · rw [if_pos c]
        by_cases c2 : b + (k + 1) ≤ i ∧ i < b + 8
        · rw [if_pos c2]
        · rw [if_neg c2, if_pos (by omega)]
      · rw [if_neg c, if_neg (by omega), if_neg (by omega)]
