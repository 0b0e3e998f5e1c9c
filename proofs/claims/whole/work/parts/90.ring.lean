/-! part 90: ring: what goes from one dancer to another -/
def btF (r : Nat → Int32) (V : Nat → Vd) (t i j d : Nat) : Nat := if ctB r V t d = true ∧ dOw r d = i ∧ dCr r d = j then dHa r d else 0
def btN (r : Nat → Int32) (V : Nat → Vd) (t i j : Nat) : Nat := sm (btF r V t i j) (nD r)
def edB (r : Nat → Int32) (V : Nat → Vd) (t i j : Nat) : Bool := decide (0 < btN r V t i j)
def adN (r : Nat → Int32) (V : Nat → Vd) (t i : Nat) : Nat := bs (edB r V t i) 8
theorem btF_bd {r : Nat → Int32} {V : Nat → Vd} (w : Wf r) (t i j : Nat) {d : Nat} (hd : d ≤ nD r) : sm (btF r V t i j) d ≤ 144 := by
  have h16 := w.n16
  have := sm_le (f := btF r V t i j) (b := 9) (n := d) (fun e he => by
    have := w.ha (show e < nD r by omega)
    unfold btF
    by_cases c : ctB r V t e = true ∧ dOw r e = i ∧ dCr r e = j
    · rw [if_pos c]; omega
    · rw [if_neg c]; omega)
  omega
theorem e_ccounts {r : Nat → Int32} {V : Nat → Vd} {U : St} (h : Qc r V U) {t d : Nat} (ht : t < 6) (h19 : gI U 19 = nI t) (hd : d < nD r) : f_X8_counts (nI d) U = some (kB (ctB r V t d), U) := by
  have h16 := h.1.1.n16
  have t8 := (h.1.1.tu hd).2
  have t6 := h.1.1.t6
  obtain ⟨j1, j2, j3⟩ := h.2.1 d hd
  obtain ⟨q1, q2, q3, q4, q5⟩ := h.1.C hd
  have ph := e_hasN h.1 hd
  unfold f_X8_counts f_X8_counts_43 f_X8_counts_44 ctB
  by_cases c : dTu r d = t
  · rw [decide_eq_true c]
    cases z : (V d).2.1 <;> rw [z] at j2 <;> simp (disch := omega) only [k_let, Option.bind_some, ↓reduceIte, eq_self, true_or, or_true, n01_0, n01_1, kb_or, kb_0T, kb_0F, vn_0, vn_1, vn_k, nl_0, nl_1, nl_2, nl_3, nl_4, nl_5, nl_6, nl_7, nl_8, nl_9, nl_10, nl_11, nl_12, nl_13, nl_14, nl_15, nl_16, nl_20, nl_21, nl_22, nl_23, nl_24, nl_25, nl_26, nl_27, nl_28, nl_29, nl_30, nl_31, nl_32, nl_40, nl_41, nl_42, nl_43, nl_45, nl_47, nl_48, nl_50, nl_57, nl_59, nl_60, nl_61, nl_62, nl_63, nl_64, nl_91, nl_93, nl_94, nl_97, nl_98, nl_100, nl_110, nl_122, nl_130, nl_144, nl_160, nl_240, nl_241, nl_255, nl_256, nl_400, nl_800, nl_900, nl_999, nl_1000, nl_1001, nl_1024, nl_1103, nl_1928, nl_4321, nl_5560, nl_12345, nl_1000000, nl_1000003, nl_252645135, nl_858993459, nl_1431655765, nl_1000000000, nI_add, pk_mul, n_sub, n_neg, n_cl, leT, leF, ltT, ltF, eqT, eqF, kbT, s_II, s_In, s_IJ, s_IA, s_IL, s_IR, s_IC, s_JI, s_JJ, s_Jn, s_JA, s_JL, s_JR, s_JC, s_AI, s_AJ, s_AA, s_An, s_AL, s_AR, s_AC, s_LI, s_LJ, s_LA, s_LL, s_Ln, s_LR, s_LC, ↓b_of ph, q3, h19, j2, kB_t, kB_f, Bool.not_true, Bool.not_false, Bool.true_and]
  · rw [decide_eq_false c]
    simp (disch := omega) only [k_let, Option.bind_some, ↓reduceIte, eq_self, true_or, or_true, n01_0, n01_1, kb_or, kb_0T, kb_0F, vn_0, vn_1, vn_k, nl_0, nl_1, nl_2, nl_3, nl_4, nl_5, nl_6, nl_7, nl_8, nl_9, nl_10, nl_11, nl_12, nl_13, nl_14, nl_15, nl_16, nl_20, nl_21, nl_22, nl_23, nl_24, nl_25, nl_26, nl_27, nl_28, nl_29, nl_30, nl_31, nl_32, nl_40, nl_41, nl_42, nl_43, nl_45, nl_47, nl_48, nl_50, nl_57, nl_59, nl_60, nl_61, nl_62, nl_63, nl_64, nl_91, nl_93, nl_94, nl_97, nl_98, nl_100, nl_110, nl_122, nl_130, nl_144, nl_160, nl_240, nl_241, nl_255, nl_256, nl_400, nl_800, nl_900, nl_999, nl_1000, nl_1001, nl_1024, nl_1103, nl_1928, nl_4321, nl_5560, nl_12345, nl_1000000, nl_1000003, nl_252645135, nl_858993459, nl_1431655765, nl_1000000000, nI_add, pk_mul, n_sub, n_neg, n_cl, leT, leF, ltT, ltF, eqT, eqF, kbT, s_II, s_In, s_IJ, s_IA, s_IL, s_IR, s_IC, s_JI, s_JJ, s_Jn, s_JA, s_JL, s_JR, s_JC, s_AI, s_AJ, s_AA, s_An, s_AL, s_AR, s_AC, s_LI, s_LJ, s_LA, s_LL, s_Ln, s_LR, s_LC, ↓b_of ph, q3, h19, kB_f, Bool.false_and]
theorem e_isBt {r : Nat → Int32} {V : Nat → Vd} {U : St} (h : Qc r V U) {t i j d : Nat} (ht : t < 6) (h19 : gI U 19 = nI t) (hi : i < 8) (hj : j < 8) (hd : d < nD r) : f_X8_isBetween (nI d) (nI i) (nI j) U = some (kB (decide (ctB r V t d = true ∧ dOw r d = i ∧ dCr r d = j)), U) := by
  have h16 := h.1.1.n16
  have o8 := (h.1.1.ow hd).2
  have c8 := (h.1.1.cr hd).2
  obtain ⟨q1, q2, q3, q4, q5⟩ := h.1.C hd
  have pc := e_ccounts h ht h19 hd
  unfold f_X8_isBetween f_X8_isBetween_38 f_X8_isBetween_39
  by_cases c : ctB r V t d = true
  · rw [c, kB_t] at pc
    by_cases c1 : dOw r d = i
    · by_cases c2 : dCr r d = j
      · rw [decide_eq_true ⟨c, c1, c2⟩]
        simp (disch := omega) only [k_let, Option.bind_some, ↓reduceIte, eq_self, true_or, or_true, n01_0, n01_1, kb_or, kb_0T, kb_0F, vn_0, vn_1, vn_k, nl_0, nl_1, nl_2, nl_3, nl_4, nl_5, nl_6, nl_7, nl_8, nl_9, nl_10, nl_11, nl_12, nl_13, nl_14, nl_15, nl_16, nl_20, nl_21, nl_22, nl_23, nl_24, nl_25, nl_26, nl_27, nl_28, nl_29, nl_30, nl_31, nl_32, nl_40, nl_41, nl_42, nl_43, nl_45, nl_47, nl_48, nl_50, nl_57, nl_59, nl_60, nl_61, nl_62, nl_63, nl_64, nl_91, nl_93, nl_94, nl_97, nl_98, nl_100, nl_110, nl_122, nl_130, nl_144, nl_160, nl_240, nl_241, nl_255, nl_256, nl_400, nl_800, nl_900, nl_999, nl_1000, nl_1001, nl_1024, nl_1103, nl_1928, nl_4321, nl_5560, nl_12345, nl_1000000, nl_1000003, nl_252645135, nl_858993459, nl_1431655765, nl_1000000000, nI_add, pk_mul, n_sub, n_neg, n_cl, leT, leF, ltT, ltF, eqT, eqF, kbT, s_II, s_In, s_IJ, s_IA, s_IL, s_IR, s_IC, s_JI, s_JJ, s_Jn, s_JA, s_JL, s_JR, s_JC, s_AI, s_AJ, s_AA, s_An, s_AL, s_AR, s_AC, s_LI, s_LJ, s_LA, s_LL, s_Ln, s_LR, s_LC, ↓b_of pc, q1, q2, kB_t]
      · rw [decide_eq_false (fun z => c2 z.2.2)]
        simp (disch := omega) only [k_let, Option.bind_some, ↓reduceIte, eq_self, true_or, or_true, n01_0, n01_1, kb_or, kb_0T, kb_0F, vn_0, vn_1, vn_k, nl_0, nl_1, nl_2, nl_3, nl_4, nl_5, nl_6, nl_7, nl_8, nl_9, nl_10, nl_11, nl_12, nl_13, nl_14, nl_15, nl_16, nl_20, nl_21, nl_22, nl_23, nl_24, nl_25, nl_26, nl_27, nl_28, nl_29, nl_30, nl_31, nl_32, nl_40, nl_41, nl_42, nl_43, nl_45, nl_47, nl_48, nl_50, nl_57, nl_59, nl_60, nl_61, nl_62, nl_63, nl_64, nl_91, nl_93, nl_94, nl_97, nl_98, nl_100, nl_110, nl_122, nl_130, nl_144, nl_160, nl_240, nl_241, nl_255, nl_256, nl_400, nl_800, nl_900, nl_999, nl_1000, nl_1001, nl_1024, nl_1103, nl_1928, nl_4321, nl_5560, nl_12345, nl_1000000, nl_1000003, nl_252645135, nl_858993459, nl_1431655765, nl_1000000000, nI_add, pk_mul, n_sub, n_neg, n_cl, leT, leF, ltT, ltF, eqT, eqF, kbT, s_II, s_In, s_IJ, s_IA, s_IL, s_IR, s_IC, s_JI, s_JJ, s_Jn, s_JA, s_JL, s_JR, s_JC, s_AI, s_AJ, s_AA, s_An, s_AL, s_AR, s_AC, s_LI, s_LJ, s_LA, s_LL, s_Ln, s_LR, s_LC, ↓b_of pc, q1, q2, kB_f]
    · rw [decide_eq_false (fun z => c1 z.2.1)]
      simp (disch := omega) only [k_let, Option.bind_some, ↓reduceIte, eq_self, true_or, or_true, n01_0, n01_1, kb_or, kb_0T, kb_0F, vn_0, vn_1, vn_k, nl_0, nl_1, nl_2, nl_3, nl_4, nl_5, nl_6, nl_7, nl_8, nl_9, nl_10, nl_11, nl_12, nl_13, nl_14, nl_15, nl_16, nl_20, nl_21, nl_22, nl_23, nl_24, nl_25, nl_26, nl_27, nl_28, nl_29, nl_30, nl_31, nl_32, nl_40, nl_41, nl_42, nl_43, nl_45, nl_47, nl_48, nl_50, nl_57, nl_59, nl_60, nl_61, nl_62, nl_63, nl_64, nl_91, nl_93, nl_94, nl_97, nl_98, nl_100, nl_110, nl_122, nl_130, nl_144, nl_160, nl_240, nl_241, nl_255, nl_256, nl_400, nl_800, nl_900, nl_999, nl_1000, nl_1001, nl_1024, nl_1103, nl_1928, nl_4321, nl_5560, nl_12345, nl_1000000, nl_1000003, nl_252645135, nl_858993459, nl_1431655765, nl_1000000000, nI_add, pk_mul, n_sub, n_neg, n_cl, leT, leF, ltT, ltF, eqT, eqF, kbT, s_II, s_In, s_IJ, s_IA, s_IL, s_IR, s_IC, s_JI, s_JJ, s_Jn, s_JA, s_JL, s_JR, s_JC, s_AI, s_AJ, s_AA, s_An, s_AL, s_AR, s_AC, s_LI, s_LJ, s_LA, s_LL, s_Ln, s_LR, s_LC, ↓b_of pc, q1, kB_f]
  · rw [decide_eq_false (fun z => c z.1)]
    rw [Bool.not_eq_true] at c
    rw [c, kB_f] at pc
    simp (disch := omega) only [k_let, Option.bind_some, ↓reduceIte, eq_self, true_or, or_true, n01_0, n01_1, kb_or, kb_0T, kb_0F, vn_0, vn_1, vn_k, nl_0, nl_1, nl_2, nl_3, nl_4, nl_5, nl_6, nl_7, nl_8, nl_9, nl_10, nl_11, nl_12, nl_13, nl_14, nl_15, nl_16, nl_20, nl_21, nl_22, nl_23, nl_24, nl_25, nl_26, nl_27, nl_28, nl_29, nl_30, nl_31, nl_32, nl_40, nl_41, nl_42, nl_43, nl_45, nl_47, nl_48, nl_50, nl_57, nl_59, nl_60, nl_61, nl_62, nl_63, nl_64, nl_91, nl_93, nl_94, nl_97, nl_98, nl_100, nl_110, nl_122, nl_130, nl_144, nl_160, nl_240, nl_241, nl_255, nl_256, nl_400, nl_800, nl_900, nl_999, nl_1000, nl_1001, nl_1024, nl_1103, nl_1928, nl_4321, nl_5560, nl_12345, nl_1000000, nl_1000003, nl_252645135, nl_858993459, nl_1431655765, nl_1000000000, nI_add, pk_mul, n_sub, n_neg, n_cl, leT, leF, ltT, ltF, eqT, eqF, kbT, s_II, s_In, s_IJ, s_IA, s_IL, s_IR, s_IC, s_JI, s_JJ, s_Jn, s_JA, s_JL, s_JR, s_JC, s_AI, s_AJ, s_AA, s_An, s_AL, s_AR, s_AC, s_LI, s_LJ, s_LA, s_LL, s_Ln, s_LR, s_LC, ↓b_of pc, kB_f]
theorem e_cbt {r : Nat → Int32} {V : Nat → Vd} {U : St} (h : Qc r V U) {t i j : Nat} (ht : t < 6) (h19 : gI U 19 = nI t) (hi : i < 8) (hj : j < 8) : f_X8_between (nI i) (nI j) U = some (nI (btN r V t i j), U) := by
  have h16 := h.1.1.n16
  have h1 := h.1.I1
  have key : ∀ (m f d : Nat), d + m = nD r → m < f → f_X8_between_5 f (nI i) (nI j) (nI (sm (btF r V t i j) d)) (nI d) U = some (nI (btN r V t i j), U) := by
    intro m
    induction m with
    | zero =>
      intro f d hd hf
      obtain ⟨f, rfl⟩ : ∃ g, f = g + 1 := ⟨f - 1, by omega⟩
      have : d = nD r := by omega
      subst this
      rw [f_X8_between_5, f_X8_between_54]
      simp (disch := omega) only [k_let, Option.bind_some, ↓reduceIte, eq_self, true_or, or_true, n01_0, n01_1, kb_or, kb_0T, kb_0F, vn_0, vn_1, vn_k, nl_0, nl_1, nl_2, nl_3, nl_4, nl_5, nl_6, nl_7, nl_8, nl_9, nl_10, nl_11, nl_12, nl_13, nl_14, nl_15, nl_16, nl_20, nl_21, nl_22, nl_23, nl_24, nl_25, nl_26, nl_27, nl_28, nl_29, nl_30, nl_31, nl_32, nl_40, nl_41, nl_42, nl_43, nl_45, nl_47, nl_48, nl_50, nl_57, nl_59, nl_60, nl_61, nl_62, nl_63, nl_64, nl_91, nl_93, nl_94, nl_97, nl_98, nl_100, nl_110, nl_122, nl_130, nl_144, nl_160, nl_240, nl_241, nl_255, nl_256, nl_400, nl_800, nl_900, nl_999, nl_1000, nl_1001, nl_1024, nl_1103, nl_1928, nl_4321, nl_5560, nl_12345, nl_1000000, nl_1000003, nl_252645135, nl_858993459, nl_1431655765, nl_1000000000, nI_add, pk_mul, n_sub, n_neg, n_cl, leT, leF, ltT, ltF, eqT, eqF, kbT, s_II, s_In, s_IJ, s_IA, s_IL, s_IR, s_IC, s_JI, s_JJ, s_Jn, s_JA, s_JL, s_JR, s_JC, s_AI, s_AJ, s_AA, s_An, s_AL, s_AR, s_AC, s_LI, s_LJ, s_LA, s_LL, s_Ln, s_LR, s_LC, h1]
      rfl
    | succ m ih =>
      intro f d hd hf
      obtain ⟨f, rfl⟩ : ∃ g, f = g + 1 := ⟨f - 1, by omega⟩
      have hdn : d < nD r := by omega
      obtain ⟨q1, q2, q3, q4, q5⟩ := h.1.C hdn
      have pb := e_isBt h ht h19 hi hj hdn
      have bd := btF_bd (V := V) h.1.1 t i j (d := d) (by omega)
      have a8 := (h.1.1.ha hdn).2
      have es : sm (btF r V t i j) (d + 1) = sm (btF r V t i j) d + (if ctB r V t d = true ∧ dOw r d = i ∧ dCr r d = j then dHa r d else 0) := rfl
      rw [← ih f (d + 1) (by omega) (by omega), es, f_X8_between_5]
      by_cases c : ctB r V t d = true ∧ dOw r d = i ∧ dCr r d = j
      · rw [decide_eq_true c, kB_t] at pb
        rw [if_pos c]
        simp (disch := omega) only [k_let, Option.bind_some, ↓reduceIte, eq_self, true_or, or_true, n01_0, n01_1, kb_or, kb_0T, kb_0F, vn_0, vn_1, vn_k, nl_0, nl_1, nl_2, nl_3, nl_4, nl_5, nl_6, nl_7, nl_8, nl_9, nl_10, nl_11, nl_12, nl_13, nl_14, nl_15, nl_16, nl_20, nl_21, nl_22, nl_23, nl_24, nl_25, nl_26, nl_27, nl_28, nl_29, nl_30, nl_31, nl_32, nl_40, nl_41, nl_42, nl_43, nl_45, nl_47, nl_48, nl_50, nl_57, nl_59, nl_60, nl_61, nl_62, nl_63, nl_64, nl_91, nl_93, nl_94, nl_97, nl_98, nl_100, nl_110, nl_122, nl_130, nl_144, nl_160, nl_240, nl_241, nl_255, nl_256, nl_400, nl_800, nl_900, nl_999, nl_1000, nl_1001, nl_1024, nl_1103, nl_1928, nl_4321, nl_5560, nl_12345, nl_1000000, nl_1000003, nl_252645135, nl_858993459, nl_1431655765, nl_1000000000, nI_add, pk_mul, n_sub, n_neg, n_cl, leT, leF, ltT, ltF, eqT, eqF, kbT, s_II, s_In, s_IJ, s_IA, s_IL, s_IR, s_IC, s_JI, s_JJ, s_Jn, s_JA, s_JL, s_JR, s_JC, s_AI, s_AJ, s_AA, s_An, s_AL, s_AR, s_AC, s_LI, s_LJ, s_LA, s_LL, s_Ln, s_LR, s_LC, h1, ↓b_of pb, q4, f_X8_between_48]
      · rw [decide_eq_false c, kB_f] at pb
        rw [if_neg c]
        simp (disch := omega) only [k_let, Option.bind_some, ↓reduceIte, eq_self, true_or, or_true, n01_0, n01_1, kb_or, kb_0T, kb_0F, vn_0, vn_1, vn_k, nl_0, nl_1, nl_2, nl_3, nl_4, nl_5, nl_6, nl_7, nl_8, nl_9, nl_10, nl_11, nl_12, nl_13, nl_14, nl_15, nl_16, nl_20, nl_21, nl_22, nl_23, nl_24, nl_25, nl_26, nl_27, nl_28, nl_29, nl_30, nl_31, nl_32, nl_40, nl_41, nl_42, nl_43, nl_45, nl_47, nl_48, nl_50, nl_57, nl_59, nl_60, nl_61, nl_62, nl_63, nl_64, nl_91, nl_93, nl_94, nl_97, nl_98, nl_100, nl_110, nl_122, nl_130, nl_144, nl_160, nl_240, nl_241, nl_255, nl_256, nl_400, nl_800, nl_900, nl_999, nl_1000, nl_1001, nl_1024, nl_1103, nl_1928, nl_4321, nl_5560, nl_12345, nl_1000000, nl_1000003, nl_252645135, nl_858993459, nl_1431655765, nl_1000000000, nI_add, pk_mul, n_sub, n_neg, n_cl, leT, leF, ltT, ltF, eqT, eqF, kbT, s_II, s_In, s_IJ, s_IA, s_IL, s_IR, s_IC, s_JI, s_JJ, s_Jn, s_JA, s_JL, s_JR, s_JC, s_AI, s_AJ, s_AA, s_An, s_AL, s_AR, s_AC, s_LI, s_LJ, s_LA, s_LL, s_Ln, s_LR, s_LC, h1, ↓b_of pb, f_X8_between_48, Nat.add_zero]
  exact key (nD r) FU 0 (by omega) (FU_ge (by omega))
theorem e_mbt {r : Nat → Int32} {V : Nat → Vd} {U : St} (h : Qm r V U) {t i j : Nat} (ht : t < 6) (hi : i < 8) (hj : j < 8) : f_X12_between (nI i) (nI j) (nI t) U = some (nI (btN r V t i j), U) := by
  have h16 := h.1.1.n16
  have pn := e_m_n h.1
  have key : ∀ (m f d : Nat), d + m = nD r → m < f → f_X12_between_6 f (nI i) (nI j) (nI t) (nI (sm (btF r V t i j) d)) (nI d) U = some (nI (btN r V t i j), U) := by
    intro m
    induction m with
    | zero =>
      intro f d hd hf
      obtain ⟨f, rfl⟩ : ∃ g, f = g + 1 := ⟨f - 1, by omega⟩
      have : d = nD r := by omega
      subst this
      rw [f_X12_between_6]
      simp (disch := omega) only [k_let, Option.bind_some, ↓reduceIte, eq_self, true_or, or_true, n01_0, n01_1, kb_or, kb_0T, kb_0F, vn_0, vn_1, vn_k, nl_0, nl_1, nl_2, nl_3, nl_4, nl_5, nl_6, nl_7, nl_8, nl_9, nl_10, nl_11, nl_12, nl_13, nl_14, nl_15, nl_16, nl_20, nl_21, nl_22, nl_23, nl_24, nl_25, nl_26, nl_27, nl_28, nl_29, nl_30, nl_31, nl_32, nl_40, nl_41, nl_42, nl_43, nl_45, nl_47, nl_48, nl_50, nl_57, nl_59, nl_60, nl_61, nl_62, nl_63, nl_64, nl_91, nl_93, nl_94, nl_97, nl_98, nl_100, nl_110, nl_122, nl_130, nl_144, nl_160, nl_240, nl_241, nl_255, nl_256, nl_400, nl_800, nl_900, nl_999, nl_1000, nl_1001, nl_1024, nl_1103, nl_1928, nl_4321, nl_5560, nl_12345, nl_1000000, nl_1000003, nl_252645135, nl_858993459, nl_1431655765, nl_1000000000, nI_add, pk_mul, n_sub, n_neg, n_cl, leT, leF, ltT, ltF, eqT, eqF, kbT, s_II, s_In, s_IJ, s_IA, s_IL, s_IR, s_IC, s_JI, s_JJ, s_Jn, s_JA, s_JL, s_JR, s_JC, s_AI, s_AJ, s_AA, s_An, s_AL, s_AR, s_AC, s_LI, s_LJ, s_LA, s_LL, s_Ln, s_LR, s_LC, ↓b_of pn]
      rfl
    | succ m ih =>
      intro f d hd hf
      obtain ⟨f, rfl⟩ : ∃ g, f = g + 1 := ⟨f - 1, by omega⟩
      have hdn : d < nD r := by omega
      have o8 := (h.1.1.ow hdn).2
      have c8 := (h.1.1.cr hdn).2
      have p0 : f_X12_ofDebt (nI d) (0 : Int32) U = some (nI (dOw r d), U) := e_m_ow h.1 hdn
      have p1 : f_X12_ofDebt (nI d) (1 : Int32) U = some (nI (dCr r d), U) := e_m_cr h.1 hdn
      have p3 : f_X12_ofDebt (nI d) (3 : Int32) U = some (nI (dHa r d), U) := e_m_ha h.1 hdn
      have pc := e_counts h ht hdn
      have bd := btF_bd (V := V) h.1.1 t i j (d := d) (by omega)
      have a8 := (h.1.1.ha hdn).2
      have es : sm (btF r V t i j) (d + 1) = sm (btF r V t i j) d + (if ctB r V t d = true ∧ dOw r d = i ∧ dCr r d = j then dHa r d else 0) := rfl
      rw [← ih f (d + 1) (by omega) (by omega), es, f_X12_between_6]
      by_cases c : ctB r V t d = true
      · rw [c, kB_t] at pc
        by_cases c1 : dOw r d = i
        · by_cases c2 : dCr r d = j
          · rw [if_pos ⟨c, c1, c2⟩]
            simp (disch := omega) only [k_let, Option.bind_some, ↓reduceIte, eq_self, true_or, or_true, n01_0, n01_1, kb_or, kb_0T, kb_0F, vn_0, vn_1, vn_k, nl_0, nl_1, nl_2, nl_3, nl_4, nl_5, nl_6, nl_7, nl_8, nl_9, nl_10, nl_11, nl_12, nl_13, nl_14, nl_15, nl_16, nl_20, nl_21, nl_22, nl_23, nl_24, nl_25, nl_26, nl_27, nl_28, nl_29, nl_30, nl_31, nl_32, nl_40, nl_41, nl_42, nl_43, nl_45, nl_47, nl_48, nl_50, nl_57, nl_59, nl_60, nl_61, nl_62, nl_63, nl_64, nl_91, nl_93, nl_94, nl_97, nl_98, nl_100, nl_110, nl_122, nl_130, nl_144, nl_160, nl_240, nl_241, nl_255, nl_256, nl_400, nl_800, nl_900, nl_999, nl_1000, nl_1001, nl_1024, nl_1103, nl_1928, nl_4321, nl_5560, nl_12345, nl_1000000, nl_1000003, nl_252645135, nl_858993459, nl_1431655765, nl_1000000000, nI_add, pk_mul, n_sub, n_neg, n_cl, leT, leF, ltT, ltF, eqT, eqF, kbT, s_II, s_In, s_IJ, s_IA, s_IL, s_IR, s_IC, s_JI, s_JJ, s_Jn, s_JA, s_JL, s_JR, s_JC, s_AI, s_AJ, s_AA, s_An, s_AL, s_AR, s_AC, s_LI, s_LJ, s_LA, s_LL, s_Ln, s_LR, s_LC, ↓b_of pn, ↓b_of pc, ↓b_of p0, ↓b_of p1, ↓b_of p3, f_X12_between_60]
          · rw [if_neg (fun z => c2 z.2.2)]
            simp (disch := omega) only [k_let, Option.bind_some, ↓reduceIte, eq_self, true_or, or_true, n01_0, n01_1, kb_or, kb_0T, kb_0F, vn_0, vn_1, vn_k, nl_0, nl_1, nl_2, nl_3, nl_4, nl_5, nl_6, nl_7, nl_8, nl_9, nl_10, nl_11, nl_12, nl_13, nl_14, nl_15, nl_16, nl_20, nl_21, nl_22, nl_23, nl_24, nl_25, nl_26, nl_27, nl_28, nl_29, nl_30, nl_31, nl_32, nl_40, nl_41, nl_42, nl_43, nl_45, nl_47, nl_48, nl_50, nl_57, nl_59, nl_60, nl_61, nl_62, nl_63, nl_64, nl_91, nl_93, nl_94, nl_97, nl_98, nl_100, nl_110, nl_122, nl_130, nl_144, nl_160, nl_240, nl_241, nl_255, nl_256, nl_400, nl_800, nl_900, nl_999, nl_1000, nl_1001, nl_1024, nl_1103, nl_1928, nl_4321, nl_5560, nl_12345, nl_1000000, nl_1000003, nl_252645135, nl_858993459, nl_1431655765, nl_1000000000, nI_add, pk_mul, n_sub, n_neg, n_cl, leT, leF, ltT, ltF, eqT, eqF, kbT, s_II, s_In, s_IJ, s_IA, s_IL, s_IR, s_IC, s_JI, s_JJ, s_Jn, s_JA, s_JL, s_JR, s_JC, s_AI, s_AJ, s_AA, s_An, s_AL, s_AR, s_AC, s_LI, s_LJ, s_LA, s_LL, s_Ln, s_LR, s_LC, ↓b_of pn, ↓b_of pc, ↓b_of p0, ↓b_of p1, f_X12_between_59, f_X12_between_60]
        · rw [if_neg (fun z => c1 z.2.1)]
          simp (disch := omega) only [k_let, Option.bind_some, ↓reduceIte, eq_self, true_or, or_true, n01_0, n01_1, kb_or, kb_0T, kb_0F, vn_0, vn_1, vn_k, nl_0, nl_1, nl_2, nl_3, nl_4, nl_5, nl_6, nl_7, nl_8, nl_9, nl_10, nl_11, nl_12, nl_13, nl_14, nl_15, nl_16, nl_20, nl_21, nl_22, nl_23, nl_24, nl_25, nl_26, nl_27, nl_28, nl_29, nl_30, nl_31, nl_32, nl_40, nl_41, nl_42, nl_43, nl_45, nl_47, nl_48, nl_50, nl_57, nl_59, nl_60, nl_61, nl_62, nl_63, nl_64, nl_91, nl_93, nl_94, nl_97, nl_98, nl_100, nl_110, nl_122, nl_130, nl_144, nl_160, nl_240, nl_241, nl_255, nl_256, nl_400, nl_800, nl_900, nl_999, nl_1000, nl_1001, nl_1024, nl_1103, nl_1928, nl_4321, nl_5560, nl_12345, nl_1000000, nl_1000003, nl_252645135, nl_858993459, nl_1431655765, nl_1000000000, nI_add, pk_mul, n_sub, n_neg, n_cl, leT, leF, ltT, ltF, eqT, eqF, kbT, s_II, s_In, s_IJ, s_IA, s_IL, s_IR, s_IC, s_JI, s_JJ, s_Jn, s_JA, s_JL, s_JR, s_JC, s_AI, s_AJ, s_AA, s_An, s_AL, s_AR, s_AC, s_LI, s_LJ, s_LA, s_LL, s_Ln, s_LR, s_LC, ↓b_of pn, ↓b_of pc, ↓b_of p0, f_X12_between_59, f_X12_between_60]
      · rw [if_neg (fun z => c z.1)]
        rw [Bool.not_eq_true] at c
        rw [c, kB_f] at pc
        simp (disch := omega) only [k_let, Option.bind_some, ↓reduceIte, eq_self, true_or, or_true, n01_0, n01_1, kb_or, kb_0T, kb_0F, vn_0, vn_1, vn_k, nl_0, nl_1, nl_2, nl_3, nl_4, nl_5, nl_6, nl_7, nl_8, nl_9, nl_10, nl_11, nl_12, nl_13, nl_14, nl_15, nl_16, nl_20, nl_21, nl_22, nl_23, nl_24, nl_25, nl_26, nl_27, nl_28, nl_29, nl_30, nl_31, nl_32, nl_40, nl_41, nl_42, nl_43, nl_45, nl_47, nl_48, nl_50, nl_57, nl_59, nl_60, nl_61, nl_62, nl_63, nl_64, nl_91, nl_93, nl_94, nl_97, nl_98, nl_100, nl_110, nl_122, nl_130, nl_144, nl_160, nl_240, nl_241, nl_255, nl_256, nl_400, nl_800, nl_900, nl_999, nl_1000, nl_1001, nl_1024, nl_1103, nl_1928, nl_4321, nl_5560, nl_12345, nl_1000000, nl_1000003, nl_252645135, nl_858993459, nl_1431655765, nl_1000000000, nI_add, pk_mul, n_sub, n_neg, n_cl, leT, leF, ltT, ltF, eqT, eqF, kbT, s_II, s_In, s_IJ, s_IA, s_IL, s_IR, s_IC, s_JI, s_JJ, s_Jn, s_JA, s_JL, s_JR, s_JC, s_AI, s_AJ, s_AA, s_An, s_AL, s_AR, s_AC, s_LI, s_LJ, s_LA, s_LL, s_Ln, s_LR, s_LC, ↓b_of pn, ↓b_of pc, f_X12_between_59, f_X12_between_60]
  exact key (nD r) FU 0 (by omega) (FU_ge (by omega))
