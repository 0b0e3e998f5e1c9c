/-! part 51: the small methods as equations -/
theorem lt_xn (x : Int32) (n : Nat) (h : n < 2147483648) : (x < nI n) = (x.toInt < n) := by rw [Int32.lt_iff_toInt_lt, n_ti h]
theorem lt_nx (x : Int32) (n : Nat) (h : n < 2147483648) : (nI n < x) = (n < x.toInt) := by rw [Int32.lt_iff_toInt_lt, n_ti h]
theorem le_xn (x : Int32) (n : Nat) (h : n < 2147483648) : (x ≤ nI n) = (x.toInt ≤ n) := by rw [Int32.le_iff_toInt_le, n_ti h]
theorem le_nx (x : Int32) (n : Nat) (h : n < 2147483648) : (nI n ≤ x) = (n ≤ x.toInt) := by rw [Int32.le_iff_toInt_le, n_ti h]
theorem e_inL (x lo hi : Int) (S : St) (x1 : -9223372036854775808 ≤ x) (x2 : x < 9223372036854775808) (h1 : -2147483648 ≤ lo) (h2 : lo < 2147483648) (h3 : -2147483648 ≤ hi) (h4 : hi < 2147483648) : f_X12_in (lZ x) (lZ lo) (lZ hi) S = some (kB (decide (lo ≤ x ∧ x ≤ hi)), S) := by
  unfold f_X12_in f_X12_in_17 f_X12_in_18
  simp only [k_let, Option.bind_some, ↓reduceIte, eq_self, true_or, or_true, n01_0, n01_1, kb_or, kb_0T, kb_0F, vn_0, vn_1, vn_k, nl_0, nl_1, nl_2, nl_3, nl_4, nl_5, nl_6, nl_7, nl_8, nl_9, nl_10, nl_11, nl_12, nl_13, nl_14, nl_15, nl_16, nl_20, nl_21, nl_22, nl_23, nl_24, nl_25, nl_26, nl_27, nl_28, nl_29, nl_30, nl_31, nl_32, nl_40, nl_41, nl_42, nl_43, nl_45, nl_47, nl_48, nl_50, nl_57, nl_59, nl_60, nl_61, nl_62, nl_63, nl_64, nl_91, nl_93, nl_94, nl_97, nl_98, nl_100, nl_110, nl_122, nl_130, nl_144, nl_160, nl_240, nl_241, nl_255, nl_256, nl_400, nl_800, nl_900, nl_999, nl_1000, nl_1001, nl_1024, nl_1103, nl_1928, nl_4321, nl_5560, nl_12345, nl_1000000, nl_1000003, nl_252645135, nl_858993459, nl_1431655765, nl_1000000000]
  have e1 : (lZ x < lZ lo) = (x < lo) := L_lt (by omega) (by omega) (by omega) (by omega)
  have e2 : (lZ hi < lZ x) = (hi < x) := L_lt (by omega) (by omega) (by omega) (by omega)
  by_cases c1 : x < lo
  · simp only [e1, c1, ↓reduceIte, decide_eq_false (show ¬ (lo ≤ x ∧ x ≤ hi) by omega), kB_f]
  · by_cases c2 : hi < x
    · simp only [e1, e2, c1, c2, ↓reduceIte, decide_eq_false (show ¬ (lo ≤ x ∧ x ≤ hi) by omega), kB_f]
    · simp only [e1, e2, c1, c2, ↓reduceIte, decide_eq_true (show (lo ≤ x ∧ x ≤ hi) by omega), kB_t]
theorem e_in (x : Int32) (lo hi : Int) (S : St) (h1 : -2147483648 ≤ lo) (h2 : lo < 2147483648) (h3 : -2147483648 ≤ hi) (h4 : hi < 2147483648) : f_X12_in x.toInt64 (lZ lo) (lZ hi) S = some (kB (decide (lo ≤ x.toInt ∧ x.toInt ≤ hi)), S) := by
  have a1 := i_lo x
  have a2 := i_hi x
  rw [L_x]
  exact e_inL x.toInt lo hi S (by omega) (by omega) h1 h2 h3 h4
theorem e_dancer (x : Int32) (S : St) : f_X11_isDancer x S = some (kB (decide (0 ≤ x.toInt ∧ x.toInt ≤ 7)), S) := by
  unfold f_X11_isDancer f_X11_isDancer_14 f_X11_isDancer_15
  simp only [k_let, Option.bind_some, ↓reduceIte, eq_self, true_or, or_true, n01_0, n01_1, kb_or, kb_0T, kb_0F, vn_0, vn_1, vn_k, nl_0, nl_1, nl_2, nl_3, nl_4, nl_5, nl_6, nl_7, nl_8, nl_9, nl_10, nl_11, nl_12, nl_13, nl_14, nl_15, nl_16, nl_20, nl_21, nl_22, nl_23, nl_24, nl_25, nl_26, nl_27, nl_28, nl_29, nl_30, nl_31, nl_32, nl_40, nl_41, nl_42, nl_43, nl_45, nl_47, nl_48, nl_50, nl_57, nl_59, nl_60, nl_61, nl_62, nl_63, nl_64, nl_91, nl_93, nl_94, nl_97, nl_98, nl_100, nl_110, nl_122, nl_130, nl_144, nl_160, nl_240, nl_241, nl_255, nl_256, nl_400, nl_800, nl_900, nl_999, nl_1000, nl_1001, nl_1024, nl_1103, nl_1928, nl_4321, nl_5560, nl_12345, nl_1000000, nl_1000003, nl_252645135, nl_858993459, nl_1431655765, nl_1000000000]
  have e1 : (x < nI 0) = (x.toInt < 0) := lt_xn x 0 (by decide)
  have e2 : (nI 8 ≤ x) = (8 ≤ x.toInt) := le_nx x 8 (by decide)
  by_cases c1 : x.toInt < 0
  · simp only [e1, c1, ↓reduceIte, decide_eq_false (show ¬ (0 ≤ x.toInt ∧ x.toInt ≤ 7) by omega), kB_f]
  · by_cases c2 : 8 ≤ x.toInt
    · simp only [e1, e2, c1, c2, ↓reduceIte, decide_eq_false (show ¬ (0 ≤ x.toInt ∧ x.toInt ≤ 7) by omega), kB_f]
    · simp only [e1, e2, c1, c2, ↓reduceIte, decide_eq_true (show (0 ≤ x.toInt ∧ x.toInt ≤ 7) by omega), kB_t]
theorem e_m_dancer (x : Int32) (S : St) : f_X12_isDancer x S = some (kB (decide (0 ≤ x.toInt ∧ x.toInt ≤ 7)), S) := by
  unfold f_X12_isDancer
  simp only [ll_0, ll_1, ll_2, ll_7, ll_8, ll_9, ll_10, ll_20, ll_23, ll_24, ll_26, ll_30, ll_32, ll_48, ll_96, ll_240, ll_256, ll_294, ll_498, ll_999, ll_1000, ll_1103, ll_1476, ll_12345, ll_14836, ll_65536, ll_1000000, ll_1000003, ll_1048576, ll_1000000000]
  rw [e_in _ _ _ _ (by decide) (by decide) (by decide) (by decide)]
  simp only [k_let, Option.bind_some, ↓reduceIte, eq_self, true_or, or_true, n01_0, n01_1, kb_or, kb_0T, kb_0F, vn_0, vn_1, vn_k, nl_0, nl_1, nl_2, nl_3, nl_4, nl_5, nl_6, nl_7, nl_8, nl_9, nl_10, nl_11, nl_12, nl_13, nl_14, nl_15, nl_16, nl_20, nl_21, nl_22, nl_23, nl_24, nl_25, nl_26, nl_27, nl_28, nl_29, nl_30, nl_31, nl_32, nl_40, nl_41, nl_42, nl_43, nl_45, nl_47, nl_48, nl_50, nl_57, nl_59, nl_60, nl_61, nl_62, nl_63, nl_64, nl_91, nl_93, nl_94, nl_97, nl_98, nl_100, nl_110, nl_122, nl_130, nl_144, nl_160, nl_240, nl_241, nl_255, nl_256, nl_400, nl_800, nl_900, nl_999, nl_1000, nl_1001, nl_1024, nl_1103, nl_1928, nl_4321, nl_5560, nl_12345, nl_1000000, nl_1000003, nl_252645135, nl_858993459, nl_1431655765, nl_1000000000]
theorem e_ofDebt {d w : Nat} (hd : d < 1000) (hw : w < 5) (S : St) : f_X12_ofDebt (nI d) (nI w) S = some (gA S 53 (14 + 5 * d + w), S) := by
  unfold f_X12_ofDebt
  simp (disch := omega) only [k_let, Option.bind_some, ↓reduceIte, eq_self, true_or, or_true, n01_0, n01_1, kb_or, kb_0T, kb_0F, vn_0, vn_1, vn_k, nl_0, nl_1, nl_2, nl_3, nl_4, nl_5, nl_6, nl_7, nl_8, nl_9, nl_10, nl_11, nl_12, nl_13, nl_14, nl_15, nl_16, nl_20, nl_21, nl_22, nl_23, nl_24, nl_25, nl_26, nl_27, nl_28, nl_29, nl_30, nl_31, nl_32, nl_40, nl_41, nl_42, nl_43, nl_45, nl_47, nl_48, nl_50, nl_57, nl_59, nl_60, nl_61, nl_62, nl_63, nl_64, nl_91, nl_93, nl_94, nl_97, nl_98, nl_100, nl_110, nl_122, nl_130, nl_144, nl_160, nl_240, nl_241, nl_255, nl_256, nl_400, nl_800, nl_900, nl_999, nl_1000, nl_1001, nl_1024, nl_1103, nl_1928, nl_4321, nl_5560, nl_12345, nl_1000000, nl_1000003, nl_252645135, nl_858993459, nl_1431655765, nl_1000000000, nI_add, pk_mul, n_sub, n_neg, n_cl, leT, leF, ltT, ltF, eqT, eqF, kbT, s_II, s_In, s_IJ, s_IA, s_IL, s_IR, s_IC, s_JI, s_JJ, s_Jn, s_JA, s_JL, s_JR, s_JC, s_AI, s_AJ, s_AA, s_An, s_AL, s_AR, s_AC, s_LI, s_LJ, s_LA, s_LL, s_Ln, s_LR, s_LC]
theorem e_debts (S : St) : f_X12_debts S = some (gA S 53 1, S) := by
  unfold f_X12_debts
  simp (disch := omega) only [k_let, Option.bind_some, ↓reduceIte, eq_self, true_or, or_true, n01_0, n01_1, kb_or, kb_0T, kb_0F, vn_0, vn_1, vn_k, nl_0, nl_1, nl_2, nl_3, nl_4, nl_5, nl_6, nl_7, nl_8, nl_9, nl_10, nl_11, nl_12, nl_13, nl_14, nl_15, nl_16, nl_20, nl_21, nl_22, nl_23, nl_24, nl_25, nl_26, nl_27, nl_28, nl_29, nl_30, nl_31, nl_32, nl_40, nl_41, nl_42, nl_43, nl_45, nl_47, nl_48, nl_50, nl_57, nl_59, nl_60, nl_61, nl_62, nl_63, nl_64, nl_91, nl_93, nl_94, nl_97, nl_98, nl_100, nl_110, nl_122, nl_130, nl_144, nl_160, nl_240, nl_241, nl_255, nl_256, nl_400, nl_800, nl_900, nl_999, nl_1000, nl_1001, nl_1024, nl_1103, nl_1928, nl_4321, nl_5560, nl_12345, nl_1000000, nl_1000003, nl_252645135, nl_858993459, nl_1431655765, nl_1000000000, nI_add, pk_mul, n_sub, n_neg, n_cl, leT, leF, ltT, ltF, eqT, eqF, kbT, s_II, s_In, s_IJ, s_IA, s_IL, s_IR, s_IC, s_JI, s_JJ, s_Jn, s_JA, s_JL, s_JR, s_JC, s_AI, s_AJ, s_AA, s_An, s_AL, s_AR, s_AC, s_LI, s_LJ, s_LA, s_LL, s_Ln, s_LR, s_LC]
