/-! part 54: the small methods over related states -/
/-- a range test of the class's form: x < 0, n <= x, c <= x -/
theorem t_rng {α : Type} (x : Int32) (n c : Nat) (hn : n ≤ c) (hc : c < 2147483648) (a b : α) : (if x < nI 0 then a else if nI n ≤ x then a else if nI c ≤ x then a else b) = if (0 ≤ x.toInt ∧ x.toInt < n) then b else a := by
  simp only [lt_xn x 0 (by decide), le_nx x n (by omega), le_nx x c hc]
  by_cases c1 : x.toInt < (0 : Nat)
  · rw [if_pos c1, if_neg (by omega)]
  · by_cases c2 : (n : Int) ≤ x.toInt
    · rw [if_neg c1, if_pos c2, if_neg (by omega)]
    · rw [if_neg c1, if_neg c2, if_neg (by omega), if_pos (by omega)]
theorem kB_ite (p : Prop) [Decidable p] (S : St) : (if p then some (nI 1, S) else some (nI 0, S)) = some (kB (decide p), S) := by
  by_cases h : p
  · rw [if_pos h, decide_eq_true h]; rfl
  · rw [if_neg h, decide_eq_false h]; rfl
theorem e_hasTune {r : Nat → Int32} {S : St} (h : Ic r S) (x : Int32) : f_X10_hasTune x S = some (kB (decide (0 ≤ x.toInt ∧ x.toInt < rN r 0)), S) := by
  have := h.1.t6
  unfold f_X10_hasTune f_X10_hasTune_22 f_X10_hasTune_23
  simp only [k_let, Option.bind_some, ↓reduceIte, eq_self, true_or, or_true, n01_0, n01_1, kb_or, kb_0T, kb_0F, vn_0, vn_1, vn_k, nl_0, nl_1, nl_2, nl_3, nl_4, nl_5, nl_6, nl_7, nl_8, nl_9, nl_10, nl_11, nl_12, nl_13, nl_14, nl_15, nl_16, nl_20, nl_21, nl_22, nl_23, nl_24, nl_25, nl_26, nl_27, nl_28, nl_29, nl_30, nl_31, nl_32, nl_40, nl_41, nl_42, nl_43, nl_45, nl_47, nl_48, nl_50, nl_57, nl_59, nl_60, nl_61, nl_62, nl_63, nl_64, nl_91, nl_93, nl_94, nl_97, nl_98, nl_100, nl_110, nl_122, nl_130, nl_144, nl_160, nl_240, nl_241, nl_255, nl_256, nl_400, nl_800, nl_900, nl_999, nl_1000, nl_1001, nl_1024, nl_1103, nl_1928, nl_4321, nl_5560, nl_12345, nl_1000000, nl_1000003, nl_252645135, nl_858993459, nl_1431655765, nl_1000000000, h.I0]
  rw [t_rng x _ 6 this (by decide), kB_ite]
theorem e_hasLaw {r : Nat → Int32} {S : St} (h : Ic r S) (x : Int32) : f_X10_hasLaw x S = some (kB (decide (0 ≤ x.toInt ∧ x.toInt < rN r 2)), S) := by
  have h2 := h.1.2.2.1
  have e : gI S 3 = nI (rN r 2) := h.2.1.2.2.2.1.trans h2.1
  unfold f_X10_hasLaw f_X10_hasLaw_22 f_X10_hasLaw_23
  simp only [k_let, Option.bind_some, ↓reduceIte, eq_self, true_or, or_true, n01_0, n01_1, kb_or, kb_0T, kb_0F, vn_0, vn_1, vn_k, nl_0, nl_1, nl_2, nl_3, nl_4, nl_5, nl_6, nl_7, nl_8, nl_9, nl_10, nl_11, nl_12, nl_13, nl_14, nl_15, nl_16, nl_20, nl_21, nl_22, nl_23, nl_24, nl_25, nl_26, nl_27, nl_28, nl_29, nl_30, nl_31, nl_32, nl_40, nl_41, nl_42, nl_43, nl_45, nl_47, nl_48, nl_50, nl_57, nl_59, nl_60, nl_61, nl_62, nl_63, nl_64, nl_91, nl_93, nl_94, nl_97, nl_98, nl_100, nl_110, nl_122, nl_130, nl_144, nl_160, nl_240, nl_241, nl_255, nl_256, nl_400, nl_800, nl_900, nl_999, nl_1000, nl_1001, nl_1024, nl_1103, nl_1928, nl_4321, nl_5560, nl_12345, nl_1000000, nl_1000003, nl_252645135, nl_858993459, nl_1431655765, nl_1000000000, e]
  rw [t_rng x _ 6 (by have := h2.2; omega) (by decide), kB_ite]
theorem e_hasDance {r : Nat → Int32} {S : St} (h : Ic r S) (x : Int32) : f_X10_hasDance x S = some (kB (decide (0 ≤ x.toInt ∧ x.toInt < rN r 5)), S) := by
  have h2 := h.1.2.2.2.2.2.1
  have e : gI S 6 = nI (rN r 5) := h.2.1.2.2.2.2.2.2.1.trans h2.1
  unfold f_X10_hasDance f_X10_hasDance_22 f_X10_hasDance_23
  simp only [k_let, Option.bind_some, ↓reduceIte, eq_self, true_or, or_true, n01_0, n01_1, kb_or, kb_0T, kb_0F, vn_0, vn_1, vn_k, nl_0, nl_1, nl_2, nl_3, nl_4, nl_5, nl_6, nl_7, nl_8, nl_9, nl_10, nl_11, nl_12, nl_13, nl_14, nl_15, nl_16, nl_20, nl_21, nl_22, nl_23, nl_24, nl_25, nl_26, nl_27, nl_28, nl_29, nl_30, nl_31, nl_32, nl_40, nl_41, nl_42, nl_43, nl_45, nl_47, nl_48, nl_50, nl_57, nl_59, nl_60, nl_61, nl_62, nl_63, nl_64, nl_91, nl_93, nl_94, nl_97, nl_98, nl_100, nl_110, nl_122, nl_130, nl_144, nl_160, nl_240, nl_241, nl_255, nl_256, nl_400, nl_800, nl_900, nl_999, nl_1000, nl_1001, nl_1024, nl_1103, nl_1928, nl_4321, nl_5560, nl_12345, nl_1000000, nl_1000003, nl_252645135, nl_858993459, nl_1431655765, nl_1000000000, e]
  rw [t_rng x _ 10 (by have := h2.2; omega) (by decide), kB_ite]
theorem e_has {r : Nat → Int32} {S : St} (h : Ic r S) (x : Int32) : f_X1_has x S = some (kB (decide (0 ≤ x.toInt ∧ x.toInt < nD r)), S) := by
  have := h.1.n16
  unfold f_X1_has f_X1_has_22 f_X1_has_23
  simp only [k_let, Option.bind_some, ↓reduceIte, eq_self, true_or, or_true, n01_0, n01_1, kb_or, kb_0T, kb_0F, vn_0, vn_1, vn_k, nl_0, nl_1, nl_2, nl_3, nl_4, nl_5, nl_6, nl_7, nl_8, nl_9, nl_10, nl_11, nl_12, nl_13, nl_14, nl_15, nl_16, nl_20, nl_21, nl_22, nl_23, nl_24, nl_25, nl_26, nl_27, nl_28, nl_29, nl_30, nl_31, nl_32, nl_40, nl_41, nl_42, nl_43, nl_45, nl_47, nl_48, nl_50, nl_57, nl_59, nl_60, nl_61, nl_62, nl_63, nl_64, nl_91, nl_93, nl_94, nl_97, nl_98, nl_100, nl_110, nl_122, nl_130, nl_144, nl_160, nl_240, nl_241, nl_255, nl_256, nl_400, nl_800, nl_900, nl_999, nl_1000, nl_1001, nl_1024, nl_1103, nl_1928, nl_4321, nl_5560, nl_12345, nl_1000000, nl_1000003, nl_252645135, nl_858993459, nl_1431655765, nl_1000000000, h.I1]
  rw [t_rng x _ 16 this (by decide), kB_ite]
theorem e_hasN {r : Nat → Int32} {S : St} (h : Ic r S) {d : Nat} (hd : d < nD r) : f_X1_has (nI d) S = some (nI 1, S) := by
  have := h.1.n16
  rw [e_has h, n_ti (by omega), decide_eq_true (by omega)]; rfl
theorem e_lenD {r : Nat → Int32} {S : St} (h : Ic r S) {d : Nat} (hd : d < nD r) : f_X10_lengthOfDebt (nI d) S = some (nI (dLn r d), S) := by
  have := h.1.n16
  have := h.1.t6
  have := (h.1.tu hd).2
  unfold f_X10_lengthOfDebt f_X10_lengthOfDebt_21 f_X10_lengthOfDebt_60 f_X10_lengthOfDebt_61
  simp (disch := omega) only [k_let, Option.bind_some, ↓reduceIte, eq_self, true_or, or_true, n01_0, n01_1, kb_or, kb_0T, kb_0F, vn_0, vn_1, vn_k, nl_0, nl_1, nl_2, nl_3, nl_4, nl_5, nl_6, nl_7, nl_8, nl_9, nl_10, nl_11, nl_12, nl_13, nl_14, nl_15, nl_16, nl_20, nl_21, nl_22, nl_23, nl_24, nl_25, nl_26, nl_27, nl_28, nl_29, nl_30, nl_31, nl_32, nl_40, nl_41, nl_42, nl_43, nl_45, nl_47, nl_48, nl_50, nl_57, nl_59, nl_60, nl_61, nl_62, nl_63, nl_64, nl_91, nl_93, nl_94, nl_97, nl_98, nl_100, nl_110, nl_122, nl_130, nl_144, nl_160, nl_240, nl_241, nl_255, nl_256, nl_400, nl_800, nl_900, nl_999, nl_1000, nl_1001, nl_1024, nl_1103, nl_1928, nl_4321, nl_5560, nl_12345, nl_1000000, nl_1000003, nl_252645135, nl_858993459, nl_1431655765, nl_1000000000, nI_add, pk_mul, n_sub, n_neg, n_cl, leT, leF, ltT, ltF, eqT, eqF, kbT, s_II, s_In, s_IJ, s_IA, s_IL, s_IR, s_IC, s_JI, s_JJ, s_Jn, s_JA, s_JL, s_JR, s_JC, s_AI, s_AJ, s_AA, s_An, s_AL, s_AR, s_AC, s_LI, s_LJ, s_LA, s_LL, s_Ln, s_LR, s_LC, h.I1, h.I0, (h.C hd).2.2.1, h.C1]
  rfl
theorem e_canOwe (x y z : Int32) (S : St) : f_X11_canOwe x y z S = some (kB (decide ((0 ≤ x.toInt ∧ x.toInt ≤ 7) ∧ (0 ≤ y.toInt ∧ y.toInt ≤ 7) ∧ x ≠ y ∧ (1 ≤ z.toInt ∧ z.toInt ≤ 9))), S) := by
  unfold f_X11_canOwe f_X11_canOwe_34 f_X11_canOwe_35
  simp only [k_let, Option.bind_some, ↓reduceIte, eq_self, true_or, or_true, n01_0, n01_1, kb_or, kb_0T, kb_0F, vn_0, vn_1, vn_k, nl_0, nl_1, nl_2, nl_3, nl_4, nl_5, nl_6, nl_7, nl_8, nl_9, nl_10, nl_11, nl_12, nl_13, nl_14, nl_15, nl_16, nl_20, nl_21, nl_22, nl_23, nl_24, nl_25, nl_26, nl_27, nl_28, nl_29, nl_30, nl_31, nl_32, nl_40, nl_41, nl_42, nl_43, nl_45, nl_47, nl_48, nl_50, nl_57, nl_59, nl_60, nl_61, nl_62, nl_63, nl_64, nl_91, nl_93, nl_94, nl_97, nl_98, nl_100, nl_110, nl_122, nl_130, nl_144, nl_160, nl_240, nl_241, nl_255, nl_256, nl_400, nl_800, nl_900, nl_999, nl_1000, nl_1001, nl_1024, nl_1103, nl_1928, nl_4321, nl_5560, nl_12345, nl_1000000, nl_1000003, nl_252645135, nl_858993459, nl_1431655765, nl_1000000000, e_dancer, kB_0, lt_xn z 1 (by decide), lt_nx z 9 (by decide), decide_eq_false_iff_not]
  by_cases c1 : 0 ≤ x.toInt ∧ x.toInt ≤ 7
  · by_cases c2 : 0 ≤ y.toInt ∧ y.toInt ≤ 7
    · by_cases c3 : x = y
      · simp [c1, c2, c3, kB]
      · by_cases c4 : 1 ≤ z.toInt ∧ z.toInt ≤ 9
        · rw [if_neg (by simpa using c1), if_neg (by simpa using c2), if_neg c3, if_neg (by omega), if_neg (by omega), decide_eq_true ⟨c1, c2, c3, c4⟩]; rfl
        · rw [decide_eq_false (by intro q; exact c4 q.2.2.2)]
          by_cases c5 : z.toInt < (1 : Nat)
          · simp [c1, c2, c3, c5, kB]
            intro q; omega
          · simp [c1, c2, c3, c5, kB, show (9 : Nat) < z.toInt by omega]
            intro q; omega
    · simp [c1, c2, kB]
  · simp [c1, kB]
theorem e_m_canOwe (x y z : Int32) (S : St) : f_X12_canOwe x y z S = some (kB (decide ((0 ≤ x.toInt ∧ x.toInt ≤ 7) ∧ (0 ≤ y.toInt ∧ y.toInt ≤ 7) ∧ x ≠ y ∧ (1 ≤ z.toInt ∧ z.toInt ≤ 9))), S) := by
  unfold f_X12_canOwe f_X12_canOwe_35 f_X12_canOwe_36
  simp only [k_let, Option.bind_some, ↓reduceIte, eq_self, true_or, or_true, n01_0, n01_1, kb_or, kb_0T, kb_0F, vn_0, vn_1, vn_k, nl_0, nl_1, nl_2, nl_3, nl_4, nl_5, nl_6, nl_7, nl_8, nl_9, nl_10, nl_11, nl_12, nl_13, nl_14, nl_15, nl_16, nl_20, nl_21, nl_22, nl_23, nl_24, nl_25, nl_26, nl_27, nl_28, nl_29, nl_30, nl_31, nl_32, nl_40, nl_41, nl_42, nl_43, nl_45, nl_47, nl_48, nl_50, nl_57, nl_59, nl_60, nl_61, nl_62, nl_63, nl_64, nl_91, nl_93, nl_94, nl_97, nl_98, nl_100, nl_110, nl_122, nl_130, nl_144, nl_160, nl_240, nl_241, nl_255, nl_256, nl_400, nl_800, nl_900, nl_999, nl_1000, nl_1001, nl_1024, nl_1103, nl_1928, nl_4321, nl_5560, nl_12345, nl_1000000, nl_1000003, nl_252645135, nl_858993459, nl_1431655765, nl_1000000000, ll_0, ll_1, ll_2, ll_7, ll_8, ll_9, ll_10, ll_20, ll_23, ll_24, ll_26, ll_30, ll_32, ll_48, ll_96, ll_240, ll_256, ll_294, ll_498, ll_999, ll_1000, ll_1103, ll_1476, ll_12345, ll_14836, ll_65536, ll_1000000, ll_1000003, ll_1048576, ll_1000000000, e_m_dancer, e_in z 1 9 S (by decide) (by decide) (by decide) (by decide), kB_0, decide_eq_false_iff_not]
  by_cases c1 : 0 ≤ x.toInt ∧ x.toInt ≤ 7 <;> by_cases c2 : 0 ≤ y.toInt ∧ y.toInt ≤ 7 <;> by_cases c3 : x = y <;> by_cases c4 : 1 ≤ z.toInt ∧ z.toInt ≤ 9 <;> simp [c1, c2, c3, c4, kB]
theorem e_isWedding (x y : Int32) (S : St) : f_X11_isWedding x y S = some (kB (decide ((0 ≤ x.toInt ∧ x.toInt ≤ 7) ∧ (0 ≤ y.toInt ∧ y.toInt ≤ 240))), S) := by
  unfold f_X11_isWedding f_X11_isWedding_22 f_X11_isWedding_23
  simp only [k_let, Option.bind_some, ↓reduceIte, eq_self, true_or, or_true, n01_0, n01_1, kb_or, kb_0T, kb_0F, vn_0, vn_1, vn_k, nl_0, nl_1, nl_2, nl_3, nl_4, nl_5, nl_6, nl_7, nl_8, nl_9, nl_10, nl_11, nl_12, nl_13, nl_14, nl_15, nl_16, nl_20, nl_21, nl_22, nl_23, nl_24, nl_25, nl_26, nl_27, nl_28, nl_29, nl_30, nl_31, nl_32, nl_40, nl_41, nl_42, nl_43, nl_45, nl_47, nl_48, nl_50, nl_57, nl_59, nl_60, nl_61, nl_62, nl_63, nl_64, nl_91, nl_93, nl_94, nl_97, nl_98, nl_100, nl_110, nl_122, nl_130, nl_144, nl_160, nl_240, nl_241, nl_255, nl_256, nl_400, nl_800, nl_900, nl_999, nl_1000, nl_1001, nl_1024, nl_1103, nl_1928, nl_4321, nl_5560, nl_12345, nl_1000000, nl_1000003, nl_252645135, nl_858993459, nl_1431655765, nl_1000000000, e_dancer, kB_0, lt_xn y 0 (by decide), lt_nx y 240 (by decide), decide_eq_false_iff_not]
  by_cases c1 : 0 ≤ x.toInt ∧ x.toInt ≤ 7
  · by_cases c2 : y.toInt < (0 : Nat)
    · rw [if_neg (by simpa using c1), if_pos c2, decide_eq_false (by omega)]; rfl
    · by_cases c3 : (240 : Nat) < y.toInt
      · rw [if_neg (by simpa using c1), if_neg c2, if_pos c3, decide_eq_false (by omega)]; rfl
      · rw [if_neg (by simpa using c1), if_neg c2, if_neg c3, decide_eq_true (by omega)]; rfl
  · simp [c1, kB]
theorem e_m_isWedding (x y z : Int32) (S : St) : f_X12_isWedding x y z S = some (kB (decide ((0 ≤ x.toInt ∧ x.toInt ≤ 7) ∧ (0 ≤ y.toInt ∧ y.toInt ≤ 240) ∧ (0 ≤ z.toInt ∧ z.toInt ≤ 8))), S) := by
  unfold f_X12_isWedding f_X12_isWedding_35 f_X12_isWedding_36
  simp only [k_let, Option.bind_some, ↓reduceIte, eq_self, true_or, or_true, n01_0, n01_1, kb_or, kb_0T, kb_0F, vn_0, vn_1, vn_k, nl_0, nl_1, nl_2, nl_3, nl_4, nl_5, nl_6, nl_7, nl_8, nl_9, nl_10, nl_11, nl_12, nl_13, nl_14, nl_15, nl_16, nl_20, nl_21, nl_22, nl_23, nl_24, nl_25, nl_26, nl_27, nl_28, nl_29, nl_30, nl_31, nl_32, nl_40, nl_41, nl_42, nl_43, nl_45, nl_47, nl_48, nl_50, nl_57, nl_59, nl_60, nl_61, nl_62, nl_63, nl_64, nl_91, nl_93, nl_94, nl_97, nl_98, nl_100, nl_110, nl_122, nl_130, nl_144, nl_160, nl_240, nl_241, nl_255, nl_256, nl_400, nl_800, nl_900, nl_999, nl_1000, nl_1001, nl_1024, nl_1103, nl_1928, nl_4321, nl_5560, nl_12345, nl_1000000, nl_1000003, nl_252645135, nl_858993459, nl_1431655765, nl_1000000000, ll_0, ll_1, ll_2, ll_7, ll_8, ll_9, ll_10, ll_20, ll_23, ll_24, ll_26, ll_30, ll_32, ll_48, ll_96, ll_240, ll_256, ll_294, ll_498, ll_999, ll_1000, ll_1103, ll_1476, ll_12345, ll_14836, ll_65536, ll_1000000, ll_1000003, ll_1048576, ll_1000000000, e_m_dancer, e_in y 0 240 S (by decide) (by decide) (by decide) (by decide), e_in z 0 8 S (by decide) (by decide) (by decide) (by decide), kB_0, decide_eq_false_iff_not]
  by_cases c1 : 0 ≤ x.toInt ∧ x.toInt ≤ 7 <;> by_cases c2 : 0 ≤ y.toInt ∧ y.toInt ≤ 240 <;> by_cases c3 : 0 ≤ z.toInt ∧ z.toInt ≤ 8 <;> simp [c1, c2, c3, kB]
theorem in_lt (x : Int32) (n : Nat) : (0 ≤ x.toInt ∧ x.toInt ≤ (n : Int) - 1) = (0 ≤ x.toInt ∧ x.toInt < n) := by
  apply propext; omega
theorem e_m_isTune {r : Nat → Int32} {S : St} (h : Ir r S) (x : Int32) : f_X12_isTune x S = some (kB (decide (0 ≤ x.toInt ∧ x.toInt < rN r 0)), S) := by
  have := h.1.t6
  unfold f_X12_isTune
  simp (disch := omega) only [k_let, Option.bind_some, ↓reduceIte, eq_self, true_or, or_true, n01_0, n01_1, kb_or, kb_0T, kb_0F, vn_0, vn_1, vn_k, nl_0, nl_1, nl_2, nl_3, nl_4, nl_5, nl_6, nl_7, nl_8, nl_9, nl_10, nl_11, nl_12, nl_13, nl_14, nl_15, nl_16, nl_20, nl_21, nl_22, nl_23, nl_24, nl_25, nl_26, nl_27, nl_28, nl_29, nl_30, nl_31, nl_32, nl_40, nl_41, nl_42, nl_43, nl_45, nl_47, nl_48, nl_50, nl_57, nl_59, nl_60, nl_61, nl_62, nl_63, nl_64, nl_91, nl_93, nl_94, nl_97, nl_98, nl_100, nl_110, nl_122, nl_130, nl_144, nl_160, nl_240, nl_241, nl_255, nl_256, nl_400, nl_800, nl_900, nl_999, nl_1000, nl_1001, nl_1024, nl_1103, nl_1928, nl_4321, nl_5560, nl_12345, nl_1000000, nl_1000003, nl_252645135, nl_858993459, nl_1431655765, nl_1000000000, nI_add, pk_mul, n_sub, n_neg, n_cl, leT, leF, ltT, ltF, eqT, eqF, kbT, s_II, s_In, s_IJ, s_IA, s_IL, s_IR, s_IC, s_JI, s_JJ, s_Jn, s_JA, s_JL, s_JR, s_JC, s_AI, s_AJ, s_AA, s_An, s_AL, s_AR, s_AC, s_LI, s_LJ, s_LA, s_LL, s_Ln, s_LR, s_LC, ll_0, ll_1, ll_2, ll_7, ll_8, ll_9, ll_10, ll_20, ll_23, ll_24, ll_26, ll_30, ll_32, ll_48, ll_96, ll_240, ll_256, ll_294, ll_498, ll_999, ll_1000, ll_1103, ll_1476, ll_12345, ll_14836, ll_65536, ll_1000000, ll_1000003, ll_1048576, ll_1000000000, h.m, h.1.r0, L_n, L_sub, e_in, in_lt]
theorem e_m_isDebt {r : Nat → Int32} {S : St} (h : Ir r S) (x : Int32) : f_X12_isDebt x S = some (kB (decide (0 ≤ x.toInt ∧ x.toInt < nD r)), S) := by
  have := h.1.n16
  unfold f_X12_isDebt
  simp (disch := omega) only [k_let, Option.bind_some, ↓reduceIte, eq_self, true_or, or_true, n01_0, n01_1, kb_or, kb_0T, kb_0F, vn_0, vn_1, vn_k, nl_0, nl_1, nl_2, nl_3, nl_4, nl_5, nl_6, nl_7, nl_8, nl_9, nl_10, nl_11, nl_12, nl_13, nl_14, nl_15, nl_16, nl_20, nl_21, nl_22, nl_23, nl_24, nl_25, nl_26, nl_27, nl_28, nl_29, nl_30, nl_31, nl_32, nl_40, nl_41, nl_42, nl_43, nl_45, nl_47, nl_48, nl_50, nl_57, nl_59, nl_60, nl_61, nl_62, nl_63, nl_64, nl_91, nl_93, nl_94, nl_97, nl_98, nl_100, nl_110, nl_122, nl_130, nl_144, nl_160, nl_240, nl_241, nl_255, nl_256, nl_400, nl_800, nl_900, nl_999, nl_1000, nl_1001, nl_1024, nl_1103, nl_1928, nl_4321, nl_5560, nl_12345, nl_1000000, nl_1000003, nl_252645135, nl_858993459, nl_1431655765, nl_1000000000, nI_add, pk_mul, n_sub, n_neg, n_cl, leT, leF, ltT, ltF, eqT, eqF, kbT, s_II, s_In, s_IJ, s_IA, s_IL, s_IR, s_IC, s_JI, s_JJ, s_Jn, s_JA, s_JL, s_JR, s_JC, s_AI, s_AJ, s_AA, s_An, s_AL, s_AR, s_AC, s_LI, s_LJ, s_LA, s_LL, s_Ln, s_LR, s_LC, ll_0, ll_1, ll_2, ll_7, ll_8, ll_9, ll_10, ll_20, ll_23, ll_24, ll_26, ll_30, ll_32, ll_48, ll_96, ll_240, ll_256, ll_294, ll_498, ll_999, ll_1000, ll_1103, ll_1476, ll_12345, ll_14836, ll_65536, ll_1000000, ll_1000003, ll_1048576, ll_1000000000, e_debts, h.m, h.1.r1, L_n, L_sub, e_in, in_lt]
theorem e_m_isDance {r : Nat → Int32} {S : St} (h : Ir r S) (x : Int32) : f_X12_isDance x S = some (kB (decide (0 ≤ x.toInt ∧ x.toInt < rN r 5)), S) := by
  have h2 := h.1.2.2.2.2.2.1
  have h3 := h2.2
  unfold f_X12_isDance
  simp (disch := omega) only [k_let, Option.bind_some, ↓reduceIte, eq_self, true_or, or_true, n01_0, n01_1, kb_or, kb_0T, kb_0F, vn_0, vn_1, vn_k, nl_0, nl_1, nl_2, nl_3, nl_4, nl_5, nl_6, nl_7, nl_8, nl_9, nl_10, nl_11, nl_12, nl_13, nl_14, nl_15, nl_16, nl_20, nl_21, nl_22, nl_23, nl_24, nl_25, nl_26, nl_27, nl_28, nl_29, nl_30, nl_31, nl_32, nl_40, nl_41, nl_42, nl_43, nl_45, nl_47, nl_48, nl_50, nl_57, nl_59, nl_60, nl_61, nl_62, nl_63, nl_64, nl_91, nl_93, nl_94, nl_97, nl_98, nl_100, nl_110, nl_122, nl_130, nl_144, nl_160, nl_240, nl_241, nl_255, nl_256, nl_400, nl_800, nl_900, nl_999, nl_1000, nl_1001, nl_1024, nl_1103, nl_1928, nl_4321, nl_5560, nl_12345, nl_1000000, nl_1000003, nl_252645135, nl_858993459, nl_1431655765, nl_1000000000, nI_add, pk_mul, n_sub, n_neg, n_cl, leT, leF, ltT, ltF, eqT, eqF, kbT, s_II, s_In, s_IJ, s_IA, s_IL, s_IR, s_IC, s_JI, s_JJ, s_Jn, s_JA, s_JL, s_JR, s_JC, s_AI, s_AJ, s_AA, s_An, s_AL, s_AR, s_AC, s_LI, s_LJ, s_LA, s_LL, s_Ln, s_LR, s_LC, ll_0, ll_1, ll_2, ll_7, ll_8, ll_9, ll_10, ll_20, ll_23, ll_24, ll_26, ll_30, ll_32, ll_48, ll_96, ll_240, ll_256, ll_294, ll_498, ll_999, ll_1000, ll_1103, ll_1476, ll_12345, ll_14836, ll_65536, ll_1000000, ll_1000003, ll_1048576, ll_1000000000, h.m, h2.1, L_n, L_sub, e_in, in_lt]
theorem e_m_n {r : Nat → Int32} {S : St} (h : Ir r S) : f_X12_debts S = some (nI (nD r), S) := by
  rw [e_debts, h.m, h.1.r1]
theorem e_m_ow {r : Nat → Int32} {S : St} (h : Ir r S) {d : Nat} (hd : d < nD r) : f_X12_ofDebt (nI d) (nI 0) S = some (nI (dOw r d), S) := by
  have := h.1.n16
  rw [e_ofDebt (by omega) (by omega), h.m]
  exact congrArg (fun v => some (v, S)) (h.1.ow hd).1
theorem e_m_cr {r : Nat → Int32} {S : St} (h : Ir r S) {d : Nat} (hd : d < nD r) : f_X12_ofDebt (nI d) (nI 1) S = some (nI (dCr r d), S) := by
  have := h.1.n16
  rw [e_ofDebt (by omega) (by omega), h.m, (h.1.cr hd).1]
theorem e_m_tu {r : Nat → Int32} {S : St} (h : Ir r S) {d : Nat} (hd : d < nD r) : f_X12_ofDebt (nI d) (nI 2) S = some (nI (dTu r d), S) := by
  have := h.1.n16
  rw [e_ofDebt (by omega) (by omega), h.m, (h.1.tu hd).1]
theorem e_m_ha {r : Nat → Int32} {S : St} (h : Ir r S) {d : Nat} (hd : d < nD r) : f_X12_ofDebt (nI d) (nI 3) S = some (nI (dHa r d), S) := by
  have := h.1.n16
  rw [e_ofDebt (by omega) (by omega), h.m, (h.1.ha hd).1]
theorem e_m_si {r : Nat → Int32} {S : St} (h : Ir r S) {d : Nat} (hd : d < nD r) : f_X12_ofDebt (nI d) (nI 4) S = some (nI (dSi r d), S) := by
  have := h.1.n16
  rw [e_ofDebt (by omega) (by omega), h.m, (h.1.si hd).1]
theorem e_m_ln {r : Nat → Int32} {S : St} (h : Ir r S) {d : Nat} (hd : d < nD r) : f_X12_lengthOf (nI d) S = some (nI (dLn r d), S) := by
  have := h.1.t6
  have := (h.1.tu hd).2
  unfold f_X12_lengthOf
  simp (disch := omega) only [k_let, Option.bind_some, ↓reduceIte, eq_self, true_or, or_true, n01_0, n01_1, kb_or, kb_0T, kb_0F, vn_0, vn_1, vn_k, nl_0, nl_1, nl_2, nl_3, nl_4, nl_5, nl_6, nl_7, nl_8, nl_9, nl_10, nl_11, nl_12, nl_13, nl_14, nl_15, nl_16, nl_20, nl_21, nl_22, nl_23, nl_24, nl_25, nl_26, nl_27, nl_28, nl_29, nl_30, nl_31, nl_32, nl_40, nl_41, nl_42, nl_43, nl_45, nl_47, nl_48, nl_50, nl_57, nl_59, nl_60, nl_61, nl_62, nl_63, nl_64, nl_91, nl_93, nl_94, nl_97, nl_98, nl_100, nl_110, nl_122, nl_130, nl_144, nl_160, nl_240, nl_241, nl_255, nl_256, nl_400, nl_800, nl_900, nl_999, nl_1000, nl_1001, nl_1024, nl_1103, nl_1928, nl_4321, nl_5560, nl_12345, nl_1000000, nl_1000003, nl_252645135, nl_858993459, nl_1431655765, nl_1000000000, nI_add, pk_mul, n_sub, n_neg, n_cl, leT, leF, ltT, ltF, eqT, eqF, kbT, s_II, s_In, s_IJ, s_IA, s_IL, s_IR, s_IC, s_JI, s_JJ, s_Jn, s_JA, s_JL, s_JR, s_JC, s_AI, s_AJ, s_AA, s_An, s_AL, s_AR, s_AC, s_LI, s_LJ, s_LA, s_LL, s_Ln, s_LR, s_LC, e_m_tu h hd, h.m, (h.1.ln hd).1]
theorem tb_div (s k : Nat) : s.testBit k = decide (s / 2 ^ k % 2 = 1) := Nat.testBit_eq_decide_div_mod_eq
theorem e_is {s k : Nat} (hs : s < 2147483648) (hk : k < 31) (S : St) : f_X12_is (nI s) (nI k) S = some (kB (s.testBit k), S) := by
  unfold f_X12_is f_X12_is_14
  simp only [k_let, Option.bind_some, ↓reduceIte, eq_self, true_or, or_true, n01_0, n01_1, kb_or, kb_0T, kb_0F, vn_0, vn_1, vn_k, nl_0, nl_1, nl_2, nl_3, nl_4, nl_5, nl_6, nl_7, nl_8, nl_9, nl_10, nl_11, nl_12, nl_13, nl_14, nl_15, nl_16, nl_20, nl_21, nl_22, nl_23, nl_24, nl_25, nl_26, nl_27, nl_28, nl_29, nl_30, nl_31, nl_32, nl_40, nl_41, nl_42, nl_43, nl_45, nl_47, nl_48, nl_50, nl_57, nl_59, nl_60, nl_61, nl_62, nl_63, nl_64, nl_91, nl_93, nl_94, nl_97, nl_98, nl_100, nl_110, nl_122, nl_130, nl_144, nl_160, nl_240, nl_241, nl_255, nl_256, nl_400, nl_800, nl_900, nl_999, nl_1000, nl_1001, nl_1024, nl_1103, nl_1928, nl_4321, nl_5560, nl_12345, nl_1000000, nl_1000003, nl_252645135, nl_858993459, nl_1431655765, nl_1000000000, n_shr hk hs, n_and1]
  have : s / 2 ^ k % 2 < 2 := Nat.mod_lt _ (by decide)
  simp only [n_eq (show s / 2 ^ k % 2 < 2147483648 by omega) (show 1 < 2147483648 by decide), tb_div]
  rw [kB_ite]
theorem e_bits_4 {s : Nat} (hs : s < 2147483648) (S : St) : ∀ (m n a : Nat), m ≤ 16 → m < n → a ≤ 16 - m → f_X12_bits_4 n (nI s) (nI a) (nI (16 - m)) S = some (nI (a + pcF s m), S) := by
  intro m
  induction m with
  | zero =>
    intro n a h1 h2 h3
    obtain ⟨n, rfl⟩ : ∃ k, n = k + 1 := ⟨n - 1, by omega⟩
    rw [f_X12_bits_4]
    simp (disch := omega) only [k_let, Option.bind_some, ↓reduceIte, eq_self, true_or, or_true, n01_0, n01_1, kb_or, kb_0T, kb_0F, vn_0, vn_1, vn_k, nl_0, nl_1, nl_2, nl_3, nl_4, nl_5, nl_6, nl_7, nl_8, nl_9, nl_10, nl_11, nl_12, nl_13, nl_14, nl_15, nl_16, nl_20, nl_21, nl_22, nl_23, nl_24, nl_25, nl_26, nl_27, nl_28, nl_29, nl_30, nl_31, nl_32, nl_40, nl_41, nl_42, nl_43, nl_45, nl_47, nl_48, nl_50, nl_57, nl_59, nl_60, nl_61, nl_62, nl_63, nl_64, nl_91, nl_93, nl_94, nl_97, nl_98, nl_100, nl_110, nl_122, nl_130, nl_144, nl_160, nl_240, nl_241, nl_255, nl_256, nl_400, nl_800, nl_900, nl_999, nl_1000, nl_1001, nl_1024, nl_1103, nl_1928, nl_4321, nl_5560, nl_12345, nl_1000000, nl_1000003, nl_252645135, nl_858993459, nl_1431655765, nl_1000000000, nI_add, pk_mul, n_sub, n_neg, n_cl, leT, leF, ltT, ltF, eqT, eqF, kbT, s_II, s_In, s_IJ, s_IA, s_IL, s_IR, s_IC, s_JI, s_JJ, s_Jn, s_JA, s_JL, s_JR, s_JC, s_AI, s_AJ, s_AA, s_An, s_AL, s_AR, s_AC, s_LI, s_LJ, s_LA, s_LL, s_Ln, s_LR, s_LC]
    rfl
  | succ m ih =>
    intro n a h1 h2 h3
    obtain ⟨n, rfl⟩ : ∃ k, n = k + 1 := ⟨n - 1, by omega⟩
    have e : 16 - (m + 1) + 1 = 16 - m := by omega
    have e2 : 15 - m = 16 - (m + 1) := by omega
    have b : s / 2 ^ (16 - (m + 1)) % 2 < 2 := Nat.mod_lt _ (by decide)
    rw [f_X12_bits_4]
    simp (disch := omega) only [k_let, Option.bind_some, ↓reduceIte, eq_self, true_or, or_true, n01_0, n01_1, kb_or, kb_0T, kb_0F, vn_0, vn_1, vn_k, nl_0, nl_1, nl_2, nl_3, nl_4, nl_5, nl_6, nl_7, nl_8, nl_9, nl_10, nl_11, nl_12, nl_13, nl_14, nl_15, nl_16, nl_20, nl_21, nl_22, nl_23, nl_24, nl_25, nl_26, nl_27, nl_28, nl_29, nl_30, nl_31, nl_32, nl_40, nl_41, nl_42, nl_43, nl_45, nl_47, nl_48, nl_50, nl_57, nl_59, nl_60, nl_61, nl_62, nl_63, nl_64, nl_91, nl_93, nl_94, nl_97, nl_98, nl_100, nl_110, nl_122, nl_130, nl_144, nl_160, nl_240, nl_241, nl_255, nl_256, nl_400, nl_800, nl_900, nl_999, nl_1000, nl_1001, nl_1024, nl_1103, nl_1928, nl_4321, nl_5560, nl_12345, nl_1000000, nl_1000003, nl_252645135, nl_858993459, nl_1431655765, nl_1000000000, nI_add, pk_mul, n_sub, n_neg, n_cl, leT, leF, ltT, ltF, eqT, eqF, kbT, s_II, s_In, s_IJ, s_IA, s_IL, s_IR, s_IC, s_JI, s_JJ, s_Jn, s_JA, s_JL, s_JR, s_JC, s_AI, s_AJ, s_AA, s_An, s_AL, s_AR, s_AC, s_LI, s_LJ, s_LA, s_LL, s_Ln, s_LR, s_LC, n_shr (show 16 - (m + 1) < 31 by omega) hs, n_and1, e]
    rw [ih n _ (by omega) (by omega) (by omega), pcF, e2]
    congr 3
    omega
theorem e_bits {s : Nat} (hs : s < 2147483648) (S : St) : f_X12_bits (nI s) S = some (nI (pc16 s), S) := by
  unfold f_X12_bits
  simp only [nl_0, nl_1, nl_2, nl_3, nl_4, nl_5, nl_6, nl_7, nl_8, nl_9, nl_10, nl_11, nl_12, nl_13, nl_14, nl_15, nl_16, nl_20, nl_21, nl_22, nl_23, nl_24, nl_25, nl_26, nl_27, nl_28, nl_29, nl_30, nl_31, nl_32, nl_40, nl_41, nl_42, nl_43, nl_45, nl_47, nl_48, nl_50, nl_57, nl_59, nl_60, nl_61, nl_62, nl_63, nl_64, nl_91, nl_93, nl_94, nl_97, nl_98, nl_100, nl_110, nl_122, nl_130, nl_144, nl_160, nl_240, nl_241, nl_255, nl_256, nl_400, nl_800, nl_900, nl_999, nl_1000, nl_1001, nl_1024, nl_1103, nl_1928, nl_4321, nl_5560, nl_12345, nl_1000000, nl_1000003, nl_252645135, nl_858993459, nl_1431655765, nl_1000000000]
  have := e_bits_4 hs S 16 FU 0 (by decide) (FU_ge (by decide)) (by decide)
  rw [show 16 - 16 = 0 from rfl] at this
  rw [this, Nat.zero_add]
  rfl
