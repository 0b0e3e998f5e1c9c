/-! part 78: the class's orders -/
theorem Ic.d5 {r : Nat → Int32} {S : St} (h : Ic r S) : gI S 6 = nI (rN r 5) := h.2.1.2.2.2.2.2.2.1.trans h.1.2.2.2.2.2.1.1
theorem Ic.d6 {r : Nat → Int32} {S : St} (h : Ic r S) : gI S 7 = nI (rN r 6) := h.2.1.2.2.2.2.2.2.2.trans h.1.2.2.2.2.2.2.1.1
theorem Ic.ee {r : Nat → Int32} {S : St} (h : Ic r S) {d : Nat} (hd : d < rN r 5) : gA S 11 d = nI (eD r d) ∧ gA S 12 d = nI (eT r d) := by
  obtain ⟨a, b⟩ := h.2.2.2.2.2.1 d hd
  obtain ⟨c, e, -, -⟩ := h.1.ee hd
  exact ⟨a.trans c, b.trans e⟩
theorem Ic.ea {r : Nat → Int32} {S : St} (h : Ic r S) {a : Nat} (ha : a < rN r 6) : gA S 13 a = nI (aF r a) ∧ gA S 14 a = nI (aL r a) := by
  obtain ⟨b, c⟩ := h.2.2.2.2.2.2.1 a ha
  obtain ⟨e, f, -, -⟩ := h.1.ea ha
  exact ⟨b.trans e, c.trans f⟩
theorem Wf.n5 {r : Nat → Int32} (w : Wf r) : rN r 5 ≤ 10 := by have := w.2.2.2.2.2.1.2; omega
theorem Wf.n6 {r : Nat → Int32} (w : Wf r) : rN r 6 ≤ 12 := by have := w.2.2.2.2.2.2.1.2; omega
/-- row k of state U holds the sets b -/
def Hb (U : St) (k : Nat) (b : Nat → Nat) : Prop := ∀ d, d < 10 → gA U k d = nI (b d)
theorem e_fill42 {S : St} : ∃ T, f_J7_fill_53178_a42 (nI 0) S = some T ∧ Fr [] [] [42] [] S T ∧ ∀ i, i < 10 → gA T 42 i = nI 0 := by
  have key : ∀ (m f i : Nat) (U : St), i + m = 10 → m < f → Fr [] [] [42] [] S U → (∀ j, j < i → gA U 42 j = nI 0) → ∃ T, f_J7_fill_53178_a42_5 f (nI 0) (nI i) (nI 10) U = some T ∧ Fr [] [] [42] [] S T ∧ ∀ i, i < 10 → gA T 42 i = nI 0 := by
    intro m
    induction m with
    | zero =>
      intro f i U hi hf hF hp
      obtain ⟨f, rfl⟩ : ∃ g, f = g + 1 := ⟨f - 1, by omega⟩
      have : i = 10 := by omega
      subst this
      refine ⟨U, ?_, hF, hp⟩
      rw [f_J7_fill_53178_a42_5]
      simp (disch := omega) only [k_let, Option.bind_some, ↓reduceIte, eq_self, true_or, or_true, n01_0, n01_1, kb_or, kb_0T, kb_0F, vn_0, vn_1, vn_k, nl_0, nl_1, nl_2, nl_3, nl_4, nl_5, nl_6, nl_7, nl_8, nl_9, nl_10, nl_11, nl_12, nl_13, nl_14, nl_15, nl_16, nl_20, nl_21, nl_22, nl_23, nl_24, nl_25, nl_26, nl_27, nl_28, nl_29, nl_30, nl_31, nl_32, nl_40, nl_41, nl_42, nl_43, nl_45, nl_47, nl_48, nl_50, nl_57, nl_59, nl_60, nl_61, nl_62, nl_63, nl_64, nl_91, nl_93, nl_94, nl_97, nl_98, nl_100, nl_110, nl_122, nl_130, nl_144, nl_160, nl_240, nl_241, nl_255, nl_256, nl_400, nl_800, nl_900, nl_999, nl_1000, nl_1001, nl_1024, nl_1103, nl_1928, nl_4321, nl_5560, nl_12345, nl_1000000, nl_1000003, nl_252645135, nl_858993459, nl_1431655765, nl_1000000000, nI_add, pk_mul, n_sub, n_neg, n_cl, leT, leF, ltT, ltF, eqT, eqF, kbT, s_II, s_In, s_IJ, s_IA, s_IL, s_IR, s_IC, s_JI, s_JJ, s_Jn, s_JA, s_JL, s_JR, s_JC, s_AI, s_AJ, s_AA, s_An, s_AL, s_AR, s_AC, s_LI, s_LJ, s_LA, s_LL, s_Ln, s_LR, s_LC]
    | succ m ih =>
      intro f i U hi hf hF hp
      obtain ⟨f, rfl⟩ : ∃ g, f = g + 1 := ⟨f - 1, by omega⟩
      have e : f_J7_fill_53178_a42_5 (f + 1) (nI 0) (nI i) (nI 10) U = f_J7_fill_53178_a42_5 f (nI 0) (nI (i + 1)) (nI 10) (sA U 42 i (nI 0)) := by
        rw [f_J7_fill_53178_a42_5]
        simp (disch := omega) only [k_let, Option.bind_some, ↓reduceIte, eq_self, true_or, or_true, n01_0, n01_1, kb_or, kb_0T, kb_0F, vn_0, vn_1, vn_k, nl_0, nl_1, nl_2, nl_3, nl_4, nl_5, nl_6, nl_7, nl_8, nl_9, nl_10, nl_11, nl_12, nl_13, nl_14, nl_15, nl_16, nl_20, nl_21, nl_22, nl_23, nl_24, nl_25, nl_26, nl_27, nl_28, nl_29, nl_30, nl_31, nl_32, nl_40, nl_41, nl_42, nl_43, nl_45, nl_47, nl_48, nl_50, nl_57, nl_59, nl_60, nl_61, nl_62, nl_63, nl_64, nl_91, nl_93, nl_94, nl_97, nl_98, nl_100, nl_110, nl_122, nl_130, nl_144, nl_160, nl_240, nl_241, nl_255, nl_256, nl_400, nl_800, nl_900, nl_999, nl_1000, nl_1001, nl_1024, nl_1103, nl_1928, nl_4321, nl_5560, nl_12345, nl_1000000, nl_1000003, nl_252645135, nl_858993459, nl_1431655765, nl_1000000000, nI_add, pk_mul, n_sub, n_neg, n_cl, leT, leF, ltT, ltF, eqT, eqF, kbT, s_II, s_In, s_IJ, s_IA, s_IL, s_IR, s_IC, s_JI, s_JJ, s_Jn, s_JA, s_JL, s_JR, s_JC, s_AI, s_AJ, s_AA, s_An, s_AL, s_AR, s_AC, s_LI, s_LJ, s_LA, s_LL, s_Ln, s_LR, s_LC]
      rw [e]
      refine ih f (i + 1) _ (by omega) (by omega) (hF.sA rfl _ _) (fun j hj => ?_)
      rw [s_AA, u_a]
      by_cases q : j = i
      · rw [if_pos q]
      · rw [if_neg q]; exact hp j (by omega)
  unfold f_J7_fill_53178_a42
  exact key 10 FU 0 S (by omega) (FU_ge (by decide)) (Fr.refl _) (fun j hj => absurd hj (Nat.not_lt_zero _))
theorem l_fa84 {S : St} (k76 : Int32 → St → Option St) {b : Nat → Nat} (hb : ∀ d, b d < 1024) {t : Nat} (ht : t < 10) : ∀ (m f d : Nat) (U : St), d + m = 10 → m < f → Fr [] [] [42] [] S U → (∀ e, e < 10 → gA U 42 e = nI (if e < d then wst b t e else b e)) →
    ∃ W, f_X5_followAhead_84 k76 f (nI t) (nI d) U = k76 (nI (t + 1)) W ∧ Fr [] [] [42] [] S W ∧ Hb W 42 (wst b t) := by
  have ht2 : wst b t t = b t := by
    unfold wst
    by_cases c : (b t).testBit t = true
    · rw [if_pos c, Nat.or_self]
    · rw [if_neg c]
  intro m
  induction m with
  | zero =>
    intro f d U hd hf hF hp
    obtain ⟨f, rfl⟩ : ∃ g, f = g + 1 := ⟨f - 1, by omega⟩
    have : d = 10 := by omega
    subst this
    refine ⟨U, ?_, hF, fun e he => by rw [hp e he, if_pos he]⟩
    rw [f_X5_followAhead_84]
    simp (disch := omega) only [k_let, Option.bind_some, ↓reduceIte, eq_self, true_or, or_true, n01_0, n01_1, kb_or, kb_0T, kb_0F, vn_0, vn_1, vn_k, nl_0, nl_1, nl_2, nl_3, nl_4, nl_5, nl_6, nl_7, nl_8, nl_9, nl_10, nl_11, nl_12, nl_13, nl_14, nl_15, nl_16, nl_20, nl_21, nl_22, nl_23, nl_24, nl_25, nl_26, nl_27, nl_28, nl_29, nl_30, nl_31, nl_32, nl_40, nl_41, nl_42, nl_43, nl_45, nl_47, nl_48, nl_50, nl_57, nl_59, nl_60, nl_61, nl_62, nl_63, nl_64, nl_91, nl_93, nl_94, nl_97, nl_98, nl_100, nl_110, nl_122, nl_130, nl_144, nl_160, nl_240, nl_241, nl_255, nl_256, nl_400, nl_800, nl_900, nl_999, nl_1000, nl_1001, nl_1024, nl_1103, nl_1928, nl_4321, nl_5560, nl_12345, nl_1000000, nl_1000003, nl_252645135, nl_858993459, nl_1431655765, nl_1000000000, nI_add, pk_mul, n_sub, n_neg, n_cl, leT, leF, ltT, ltF, eqT, eqF, kbT, s_II, s_In, s_IJ, s_IA, s_IL, s_IR, s_IC, s_JI, s_JJ, s_Jn, s_JA, s_JL, s_JR, s_JC, s_AI, s_AJ, s_AA, s_An, s_AL, s_AR, s_AC, s_LI, s_LJ, s_LA, s_LL, s_Ln, s_LR, s_LC]
  | succ m ih =>
    intro f d U hd hf hF hp
    obtain ⟨f, rfl⟩ : ∃ g, f = g + 1 := ⟨f - 1, by omega⟩
    have g1 : gA U 42 d = nI (b d) := by rw [hp d (by omega), if_neg (Nat.lt_irrefl d)]
    have g2 : gA U 42 t = nI (b t) := by
      rw [hp t ht]
      by_cases c : t < d
      · rw [if_pos c, ht2]
      · rw [if_neg c]
    have hbd := hb d
    have htd : b d / 2 ^ t % 2 < 2 := Nat.mod_lt _ (by decide)
    by_cases c : (b d).testBit t = true
    · have e : f_X5_followAhead_84 k76 (f + 1) (nI t) (nI d) U = f_X5_followAhead_84 k76 f (nI t) (nI (d + 1)) (sA U 42 d (nI (b d ||| b t))) := by
        rw [tb_div, decide_eq_true_eq] at c
        rw [f_X5_followAhead_84]
        simp (disch := omega) only [k_let, Option.bind_some, ↓reduceIte, eq_self, true_or, or_true, n01_0, n01_1, kb_or, kb_0T, kb_0F, vn_0, vn_1, vn_k, nl_0, nl_1, nl_2, nl_3, nl_4, nl_5, nl_6, nl_7, nl_8, nl_9, nl_10, nl_11, nl_12, nl_13, nl_14, nl_15, nl_16, nl_20, nl_21, nl_22, nl_23, nl_24, nl_25, nl_26, nl_27, nl_28, nl_29, nl_30, nl_31, nl_32, nl_40, nl_41, nl_42, nl_43, nl_45, nl_47, nl_48, nl_50, nl_57, nl_59, nl_60, nl_61, nl_62, nl_63, nl_64, nl_91, nl_93, nl_94, nl_97, nl_98, nl_100, nl_110, nl_122, nl_130, nl_144, nl_160, nl_240, nl_241, nl_255, nl_256, nl_400, nl_800, nl_900, nl_999, nl_1000, nl_1001, nl_1024, nl_1103, nl_1928, nl_4321, nl_5560, nl_12345, nl_1000000, nl_1000003, nl_252645135, nl_858993459, nl_1431655765, nl_1000000000, nI_add, pk_mul, n_sub, n_neg, n_cl, leT, leF, ltT, ltF, eqT, eqF, kbT, s_II, s_In, s_IJ, s_IA, s_IL, s_IR, s_IC, s_JI, s_JJ, s_Jn, s_JA, s_JL, s_JR, s_JC, s_AI, s_AJ, s_AA, s_An, s_AL, s_AR, s_AC, s_LI, s_LJ, s_LA, s_LL, s_Ln, s_LR, s_LC, g1, g2, n_shr, n_and1, n_or, f_X5_followAhead_118]
      rw [e]
      refine ih f (d + 1) _ (by omega) (by omega) (hF.sA rfl _ _) (fun e he => ?_)
      rw [s_AA, u_a]
      by_cases q : e = d
      · rw [if_pos q, if_pos (by omega), q]
        unfold wst
        rw [if_pos c]
      · rw [if_neg q, hp e he]
        by_cases z : e < d
        · rw [if_pos z, if_pos (by omega)]
        · rw [if_neg z, if_neg (by omega)]
    · have e : f_X5_followAhead_84 k76 (f + 1) (nI t) (nI d) U = f_X5_followAhead_84 k76 f (nI t) (nI (d + 1)) U := by
        rw [tb_div, decide_eq_true_eq] at c
        rw [f_X5_followAhead_84]
        simp (disch := omega) only [k_let, Option.bind_some, ↓reduceIte, eq_self, true_or, or_true, n01_0, n01_1, kb_or, kb_0T, kb_0F, vn_0, vn_1, vn_k, nl_0, nl_1, nl_2, nl_3, nl_4, nl_5, nl_6, nl_7, nl_8, nl_9, nl_10, nl_11, nl_12, nl_13, nl_14, nl_15, nl_16, nl_20, nl_21, nl_22, nl_23, nl_24, nl_25, nl_26, nl_27, nl_28, nl_29, nl_30, nl_31, nl_32, nl_40, nl_41, nl_42, nl_43, nl_45, nl_47, nl_48, nl_50, nl_57, nl_59, nl_60, nl_61, nl_62, nl_63, nl_64, nl_91, nl_93, nl_94, nl_97, nl_98, nl_100, nl_110, nl_122, nl_130, nl_144, nl_160, nl_240, nl_241, nl_255, nl_256, nl_400, nl_800, nl_900, nl_999, nl_1000, nl_1001, nl_1024, nl_1103, nl_1928, nl_4321, nl_5560, nl_12345, nl_1000000, nl_1000003, nl_252645135, nl_858993459, nl_1431655765, nl_1000000000, nI_add, pk_mul, n_sub, n_neg, n_cl, leT, leF, ltT, ltF, eqT, eqF, kbT, s_II, s_In, s_IJ, s_IA, s_IL, s_IR, s_IC, s_JI, s_JJ, s_Jn, s_JA, s_JL, s_JR, s_JC, s_AI, s_AJ, s_AA, s_An, s_AL, s_AR, s_AC, s_LI, s_LJ, s_LA, s_LL, s_Ln, s_LR, s_LC, g1, n_shr, n_and1, f_X5_followAhead_118]
      rw [e]
      refine ih f (d + 1) U (by omega) (by omega) hF (fun e he => ?_)
      rw [hp e he]
      by_cases q : e = d
      · rw [q, if_neg (Nat.lt_irrefl d), if_pos (by omega)]
        unfold wst
        rw [if_neg c]
      · by_cases z : e < d
        · rw [if_pos z, if_pos (by omega)]
        · rw [if_neg z, if_neg (by omega)]
theorem l_fa76 {S : St} {b : Nat → Nat} (hb : ∀ d, b d < 1024) : ∀ (m f t : Nat) (U : St), t + m = 10 → m < f → Fr [] [] [42] [] S U → Hb U 42 (wgo b t) → ∃ W, f_X5_followAhead_76 f (nI t) U = some W ∧ Fr [] [] [42] [] S W ∧ Hb W 42 (wgo b 10) := by
  intro m
  induction m with
  | zero =>
    intro f t U ht hf hF hp
    obtain ⟨f, rfl⟩ : ∃ g, f = g + 1 := ⟨f - 1, by omega⟩
    have : t = 10 := by omega
    subst this
    refine ⟨U, ?_, hF, hp⟩
    rw [f_X5_followAhead_76]
    simp (disch := omega) only [k_let, Option.bind_some, ↓reduceIte, eq_self, true_or, or_true, n01_0, n01_1, kb_or, kb_0T, kb_0F, vn_0, vn_1, vn_k, nl_0, nl_1, nl_2, nl_3, nl_4, nl_5, nl_6, nl_7, nl_8, nl_9, nl_10, nl_11, nl_12, nl_13, nl_14, nl_15, nl_16, nl_20, nl_21, nl_22, nl_23, nl_24, nl_25, nl_26, nl_27, nl_28, nl_29, nl_30, nl_31, nl_32, nl_40, nl_41, nl_42, nl_43, nl_45, nl_47, nl_48, nl_50, nl_57, nl_59, nl_60, nl_61, nl_62, nl_63, nl_64, nl_91, nl_93, nl_94, nl_97, nl_98, nl_100, nl_110, nl_122, nl_130, nl_144, nl_160, nl_240, nl_241, nl_255, nl_256, nl_400, nl_800, nl_900, nl_999, nl_1000, nl_1001, nl_1024, nl_1103, nl_1928, nl_4321, nl_5560, nl_12345, nl_1000000, nl_1000003, nl_252645135, nl_858993459, nl_1431655765, nl_1000000000, nI_add, pk_mul, n_sub, n_neg, n_cl, leT, leF, ltT, ltF, eqT, eqF, kbT, s_II, s_In, s_IJ, s_IA, s_IL, s_IR, s_IC, s_JI, s_JJ, s_Jn, s_JA, s_JL, s_JR, s_JC, s_AI, s_AJ, s_AA, s_An, s_AL, s_AR, s_AC, s_LI, s_LJ, s_LA, s_LL, s_Ln, s_LR, s_LC]
  | succ m ih =>
    intro f t U ht hf hF hp
    obtain ⟨f, rfl⟩ : ∃ g, f = g + 1 := ⟨f - 1, by omega⟩
    obtain ⟨W, w1, w2, w3⟩ := l_fa84 (S := U) (f_X5_followAhead_76 f) (wgo_lt hb t) (show t < 10 by omega) 10 FU 0 U (by decide) (FU_ge (by decide)) (Fr.refl U) (fun e he => by rw [if_neg (Nat.not_lt_zero _)]; exact hp e he)
    have e : f_X5_followAhead_76 (f + 1) (nI t) U = f_X5_followAhead_76 f (nI (t + 1)) W := by
      rw [← w1, f_X5_followAhead_76]
      simp (disch := omega) only [k_let, Option.bind_some, ↓reduceIte, eq_self, true_or, or_true, n01_0, n01_1, kb_or, kb_0T, kb_0F, vn_0, vn_1, vn_k, nl_0, nl_1, nl_2, nl_3, nl_4, nl_5, nl_6, nl_7, nl_8, nl_9, nl_10, nl_11, nl_12, nl_13, nl_14, nl_15, nl_16, nl_20, nl_21, nl_22, nl_23, nl_24, nl_25, nl_26, nl_27, nl_28, nl_29, nl_30, nl_31, nl_32, nl_40, nl_41, nl_42, nl_43, nl_45, nl_47, nl_48, nl_50, nl_57, nl_59, nl_60, nl_61, nl_62, nl_63, nl_64, nl_91, nl_93, nl_94, nl_97, nl_98, nl_100, nl_110, nl_122, nl_130, nl_144, nl_160, nl_240, nl_241, nl_255, nl_256, nl_400, nl_800, nl_900, nl_999, nl_1000, nl_1001, nl_1024, nl_1103, nl_1928, nl_4321, nl_5560, nl_12345, nl_1000000, nl_1000003, nl_252645135, nl_858993459, nl_1431655765, nl_1000000000, nI_add, pk_mul, n_sub, n_neg, n_cl, leT, leF, ltT, ltF, eqT, eqF, kbT, s_II, s_In, s_IJ, s_IA, s_IL, s_IR, s_IC, s_JI, s_JJ, s_Jn, s_JA, s_JL, s_JR, s_JC, s_AI, s_AJ, s_AA, s_An, s_AL, s_AR, s_AC, s_LI, s_LJ, s_LA, s_LL, s_Ln, s_LR, s_LC]
    rw [e]
    exact ih f (t + 1) W (by omega) (by omega) (hF.trans w2) w3
theorem e_follow {r : Nat → Int32} {S : St} (h : Ic r S) : ∃ W, f_X5_followAhead S = some W ∧ Fr [] [] [42] [] S W ∧ Hb W 42 (bfo r) := by
  have n6 := h.1.n6
  have n5 := h.1.n5
  have key : ∀ (m f a : Nat) (U : St), a + m = rN r 6 → m < f → Fr [] [] [42] [] S U → Hb U 42 (abK r a) → ∃ W, f_X5_followAhead_10 f (nI a) U = some W ∧ Fr [] [] [42] [] S W ∧ Hb W 42 (bfo r) := by
    intro m
    induction m with
    | zero =>
      intro f a U ha hf hF hp
      obtain ⟨f, rfl⟩ : ∃ g, f = g + 1 := ⟨f - 1, by omega⟩
      have : a = rN r 6 := by omega
      subst this
      have hU := h.fr hF rfl rfl
      obtain ⟨W, w1, w2, w3⟩ := l_fa76 (S := U) (b := abK r (rN r 6)) (fun d => abK_lt h.1 _ d (Nat.le_refl _)) 10 FU 0 U (by decide) (FU_ge (by decide)) (Fr.refl U) hp
      refine ⟨W, ?_, hF.trans w2, w3⟩
      rw [← w1, f_X5_followAhead_10]
      simp (disch := omega) only [k_let, Option.bind_some, ↓reduceIte, eq_self, true_or, or_true, n01_0, n01_1, kb_or, kb_0T, kb_0F, vn_0, vn_1, vn_k, nl_0, nl_1, nl_2, nl_3, nl_4, nl_5, nl_6, nl_7, nl_8, nl_9, nl_10, nl_11, nl_12, nl_13, nl_14, nl_15, nl_16, nl_20, nl_21, nl_22, nl_23, nl_24, nl_25, nl_26, nl_27, nl_28, nl_29, nl_30, nl_31, nl_32, nl_40, nl_41, nl_42, nl_43, nl_45, nl_47, nl_48, nl_50, nl_57, nl_59, nl_60, nl_61, nl_62, nl_63, nl_64, nl_91, nl_93, nl_94, nl_97, nl_98, nl_100, nl_110, nl_122, nl_130, nl_144, nl_160, nl_240, nl_241, nl_255, nl_256, nl_400, nl_800, nl_900, nl_999, nl_1000, nl_1001, nl_1024, nl_1103, nl_1928, nl_4321, nl_5560, nl_12345, nl_1000000, nl_1000003, nl_252645135, nl_858993459, nl_1431655765, nl_1000000000, nI_add, pk_mul, n_sub, n_neg, n_cl, leT, leF, ltT, ltF, eqT, eqF, kbT, s_II, s_In, s_IJ, s_IA, s_IL, s_IR, s_IC, s_JI, s_JJ, s_Jn, s_JA, s_JL, s_JR, s_JC, s_AI, s_AJ, s_AA, s_An, s_AL, s_AR, s_AC, s_LI, s_LJ, s_LA, s_LL, s_Ln, s_LR, s_LC, hU.d6, f_X5_followAhead_74]
    | succ m ih =>
      intro f a U ha hf hF hp
      obtain ⟨f, rfl⟩ : ∃ g, f = g + 1 := ⟨f - 1, by omega⟩
      have hU := h.fr hF rfl rfl
      have haa : a < rN r 6 := by omega
      obtain ⟨q1, q2⟩ := hU.ea haa
      obtain ⟨-, -, f10, l10, l5⟩ := h.1.ea haa
      have g1 := hp _ l10
      have b1 := e_hasDance hU (nI (aL r a))
      rw [n_ti (by omega), decide_eq_true (show (0 : Int) ≤ (aL r a : Int) ∧ (aL r a : Int) < (rN r 5 : Int) by omega), kB_t] at b1
      have e : f_X5_followAhead_10 (f + 1) (nI a) U = f_X5_followAhead_10 f (nI (a + 1)) (sA U 42 (aL r a) (nI (abK r a (aL r a) ||| 2 ^ aF r a))) := by
        rw [f_X5_followAhead_10]
        simp (disch := omega) only [k_let, Option.bind_some, ↓reduceIte, eq_self, true_or, or_true, n01_0, n01_1, kb_or, kb_0T, kb_0F, vn_0, vn_1, vn_k, nl_0, nl_1, nl_2, nl_3, nl_4, nl_5, nl_6, nl_7, nl_8, nl_9, nl_10, nl_11, nl_12, nl_13, nl_14, nl_15, nl_16, nl_20, nl_21, nl_22, nl_23, nl_24, nl_25, nl_26, nl_27, nl_28, nl_29, nl_30, nl_31, nl_32, nl_40, nl_41, nl_42, nl_43, nl_45, nl_47, nl_48, nl_50, nl_57, nl_59, nl_60, nl_61, nl_62, nl_63, nl_64, nl_91, nl_93, nl_94, nl_97, nl_98, nl_100, nl_110, nl_122, nl_130, nl_144, nl_160, nl_240, nl_241, nl_255, nl_256, nl_400, nl_800, nl_900, nl_999, nl_1000, nl_1001, nl_1024, nl_1103, nl_1928, nl_4321, nl_5560, nl_12345, nl_1000000, nl_1000003, nl_252645135, nl_858993459, nl_1431655765, nl_1000000000, nI_add, pk_mul, n_sub, n_neg, n_cl, leT, leF, ltT, ltF, eqT, eqF, kbT, s_II, s_In, s_IJ, s_IA, s_IL, s_IR, s_IC, s_JI, s_JJ, s_Jn, s_JA, s_JL, s_JR, s_JC, s_AI, s_AJ, s_AA, s_An, s_AL, s_AR, s_AC, s_LI, s_LJ, s_LA, s_LL, s_Ln, s_LR, s_LC, hU.d6, q1, q2, ↓b_of b1, b1, g1, n_shl1, n_or, f_X5_followAhead_68]
      rw [e]
      refine ih f (a + 1) _ (by omega) (by omega) (hF.sA rfl _ _) (fun d hd => ?_)
      rw [s_AA, u_a]
      show _ = nI (if d = aL r a then abK r a d ||| 2 ^ aF r a else abK r a d)
      by_cases q : d = aL r a
      · rw [if_pos q, if_pos q, q]
      · rw [if_neg q, if_neg q]; exact hp d hd
  obtain ⟨A, a1, a2, a3⟩ := e_fill42 (S := S)
  obtain ⟨W, w1, w2, w3⟩ := key (rN r 6) FU 0 A (by omega) (FU_ge (by omega)) a2 (fun d hd => a3 d hd)
  refine ⟨W, ?_, w2, w3⟩
  unfold f_X5_followAhead
  simp (disch := omega) only [k_let, Option.bind_some, ↓reduceIte, eq_self, true_or, or_true, n01_0, n01_1, kb_or, kb_0T, kb_0F, vn_0, vn_1, vn_k, nl_0, nl_1, nl_2, nl_3, nl_4, nl_5, nl_6, nl_7, nl_8, nl_9, nl_10, nl_11, nl_12, nl_13, nl_14, nl_15, nl_16, nl_20, nl_21, nl_22, nl_23, nl_24, nl_25, nl_26, nl_27, nl_28, nl_29, nl_30, nl_31, nl_32, nl_40, nl_41, nl_42, nl_43, nl_45, nl_47, nl_48, nl_50, nl_57, nl_59, nl_60, nl_61, nl_62, nl_63, nl_64, nl_91, nl_93, nl_94, nl_97, nl_98, nl_100, nl_110, nl_122, nl_130, nl_144, nl_160, nl_240, nl_241, nl_255, nl_256, nl_400, nl_800, nl_900, nl_999, nl_1000, nl_1001, nl_1024, nl_1103, nl_1928, nl_4321, nl_5560, nl_12345, nl_1000000, nl_1000003, nl_252645135, nl_858993459, nl_1431655765, nl_1000000000, ↓b_of a1, a1, w1]
theorem e_ending {U : St} {B w : Nat → Nat} {M d s : Nat} (hd : d < 10) (hs : s < 1024) (hM : M < 1024) (hB : gA U 42 d = nI (B d)) (hB2 : B d < 1024) (h27 : gI U 27 = nI M) (hw : s.testBit d = true → an (B d &&& M) (an s (2 ^ d)) = 0 → gA U 43 (an s (2 ^ d)) = nI (w (an s (2 ^ d)))) : f_X5_endingWith (nI d) (nI s) U = some (nI (eWf B M w d s), U) := by
  have hle := an_le s (2 ^ d)
  have ean : nI s &&& (nI (2 ^ d) ^^^ iZ (-((1 : Nat) : Int))) = nI (an s (2 ^ d)) := n_an (by omega)
  have hbm : B d &&& M ≤ B d := Nat.and_le_left
  have ean2 : nI (B d &&& M) &&& (nI (an s (2 ^ d)) ^^^ iZ (-((1 : Nat) : Int))) = nI (an (B d &&& M) (an s (2 ^ d))) := n_an (by omega)
  have hle2 := an_le (B d &&& M) (an s (2 ^ d))
  unfold f_X5_endingWith f_X5_endingWith_10 f_X5_endingWith_43 f_X5_endingWith_67 f_X5_endingWith_68
  by_cases c : s.testBit d = true
  · have hlt := an_lt c
    by_cases c2 : an (B d &&& M) (an s (2 ^ d)) = 0
    · have ev : eWf B M w d s = w (an s (2 ^ d)) := if_pos ⟨c, c2⟩
      rw [ev, ← hw c c2]
      simp (disch := omega) only [k_let, Option.bind_some, ↓reduceIte, eq_self, true_or, or_true, n01_0, n01_1, kb_or, kb_0T, kb_0F, vn_0, vn_1, vn_k, nl_0, nl_1, nl_2, nl_3, nl_4, nl_5, nl_6, nl_7, nl_8, nl_9, nl_10, nl_11, nl_12, nl_13, nl_14, nl_15, nl_16, nl_20, nl_21, nl_22, nl_23, nl_24, nl_25, nl_26, nl_27, nl_28, nl_29, nl_30, nl_31, nl_32, nl_40, nl_41, nl_42, nl_43, nl_45, nl_47, nl_48, nl_50, nl_57, nl_59, nl_60, nl_61, nl_62, nl_63, nl_64, nl_91, nl_93, nl_94, nl_97, nl_98, nl_100, nl_110, nl_122, nl_130, nl_144, nl_160, nl_240, nl_241, nl_255, nl_256, nl_400, nl_800, nl_900, nl_999, nl_1000, nl_1001, nl_1024, nl_1103, nl_1928, nl_4321, nl_5560, nl_12345, nl_1000000, nl_1000003, nl_252645135, nl_858993459, nl_1431655765, nl_1000000000, nI_add, pk_mul, n_sub, n_neg, n_cl, leT, leF, ltT, ltF, eqT, eqF, kbT, s_II, s_In, s_IJ, s_IA, s_IL, s_IR, s_IC, s_JI, s_JJ, s_Jn, s_JA, s_JL, s_JR, s_JC, s_AI, s_AJ, s_AA, s_An, s_AL, s_AR, s_AC, s_LI, s_LJ, s_LA, s_LL, s_Ln, s_LR, s_LC, zleT, zleF, zltT, zltF, zeqT, zeqF, nzleT, nzleF, nzltT, nzltF, nzeqT, nzeqF, znleT, znleF, znltT, znltF, zneqT, zneqF, z_add, z_sub, z_mul, z_neg, z_an, z_na, z_sn, z_ns, z_mn, z_nm, n_shl1, ean, hB, h27, n_and (B d) M, ean2, c2]
    · have ev : eWf B M w d s = 0 := if_neg (fun q => c2 q.2)
      rw [ev]
      simp (disch := omega) only [k_let, Option.bind_some, ↓reduceIte, eq_self, true_or, or_true, n01_0, n01_1, kb_or, kb_0T, kb_0F, vn_0, vn_1, vn_k, nl_0, nl_1, nl_2, nl_3, nl_4, nl_5, nl_6, nl_7, nl_8, nl_9, nl_10, nl_11, nl_12, nl_13, nl_14, nl_15, nl_16, nl_20, nl_21, nl_22, nl_23, nl_24, nl_25, nl_26, nl_27, nl_28, nl_29, nl_30, nl_31, nl_32, nl_40, nl_41, nl_42, nl_43, nl_45, nl_47, nl_48, nl_50, nl_57, nl_59, nl_60, nl_61, nl_62, nl_63, nl_64, nl_91, nl_93, nl_94, nl_97, nl_98, nl_100, nl_110, nl_122, nl_130, nl_144, nl_160, nl_240, nl_241, nl_255, nl_256, nl_400, nl_800, nl_900, nl_999, nl_1000, nl_1001, nl_1024, nl_1103, nl_1928, nl_4321, nl_5560, nl_12345, nl_1000000, nl_1000003, nl_252645135, nl_858993459, nl_1431655765, nl_1000000000, nI_add, pk_mul, n_sub, n_neg, n_cl, leT, leF, ltT, ltF, eqT, eqF, kbT, s_II, s_In, s_IJ, s_IA, s_IL, s_IR, s_IC, s_JI, s_JJ, s_Jn, s_JA, s_JL, s_JR, s_JC, s_AI, s_AJ, s_AA, s_An, s_AL, s_AR, s_AC, s_LI, s_LJ, s_LA, s_LL, s_Ln, s_LR, s_LC, zleT, zleF, zltT, zltF, zeqT, zeqF, nzleT, nzleF, nzltT, nzltF, nzeqT, nzeqF, znleT, znleF, znltT, znltF, zneqT, zneqF, z_add, z_sub, z_mul, z_neg, z_an, z_na, z_sn, z_ns, z_mn, z_nm, n_shl1, ean, hB, h27, n_and (B d) M, ean2]
  · have he := an_eq (Bool.not_eq_true _ ▸ c)
    have ev : eWf B M w d s = 0 := if_neg (fun q => c q.1)
    rw [ev]
    simp (disch := omega) only [k_let, Option.bind_some, ↓reduceIte, eq_self, true_or, or_true, n01_0, n01_1, kb_or, kb_0T, kb_0F, vn_0, vn_1, vn_k, nl_0, nl_1, nl_2, nl_3, nl_4, nl_5, nl_6, nl_7, nl_8, nl_9, nl_10, nl_11, nl_12, nl_13, nl_14, nl_15, nl_16, nl_20, nl_21, nl_22, nl_23, nl_24, nl_25, nl_26, nl_27, nl_28, nl_29, nl_30, nl_31, nl_32, nl_40, nl_41, nl_42, nl_43, nl_45, nl_47, nl_48, nl_50, nl_57, nl_59, nl_60, nl_61, nl_62, nl_63, nl_64, nl_91, nl_93, nl_94, nl_97, nl_98, nl_100, nl_110, nl_122, nl_130, nl_144, nl_160, nl_240, nl_241, nl_255, nl_256, nl_400, nl_800, nl_900, nl_999, nl_1000, nl_1001, nl_1024, nl_1103, nl_1928, nl_4321, nl_5560, nl_12345, nl_1000000, nl_1000003, nl_252645135, nl_858993459, nl_1431655765, nl_1000000000, nI_add, pk_mul, n_sub, n_neg, n_cl, leT, leF, ltT, ltF, eqT, eqF, kbT, s_II, s_In, s_IJ, s_IA, s_IL, s_IR, s_IC, s_JI, s_JJ, s_Jn, s_JA, s_JL, s_JR, s_JC, s_AI, s_AJ, s_AA, s_An, s_AL, s_AR, s_AC, s_LI, s_LJ, s_LA, s_LL, s_Ln, s_LR, s_LC, zleT, zleF, zltT, zltF, zeqT, zeqF, nzleT, nzleF, nzltT, nzltF, nzeqT, nzeqF, znleT, znleF, znltT, znltF, zneqT, zneqF, z_add, z_sub, z_mul, z_neg, z_an, z_na, z_sn, z_ns, z_mn, z_nm, n_shl1, ean, he]
/-- what find leaves -/
def OrC (r : Nat → Int32) (t : Nat) (U : St) : Prop := Hb U 42 (bfo r) ∧ gI U 27 = nI (mine r t (rN r 5)) ∧ ∀ s, s ≤ mine r t (rN r 5) → s &&& mine r t (rN r 5) = s → gA U 43 s = nI (wy (bfo r) (mine r t (rN r 5)) s)
theorem e_waysOf {B w : Nat → Nat} {U : St} {M s : Nat} (hs : s < 1024) (hM : M < 1024) (hB : Hb U 42 B) (hB2 : ∀ d, B d < 1024) (h27 : gI U 27 = nI M) (hw : ∀ d, s.testBit d = true → gA U 43 (an s (2 ^ d)) = nI (w (an s (2 ^ d)))) : f_X5_waysOf (nI s) U = some (nI (sm (fun d => eWf B M w d s) 10), U) := by
  have key : ∀ (m f d : Nat), d + m = 10 → m < f → f_X5_waysOf_4 f (nI s) (nI (sm (fun d => eWf B M w d s) d)) (nI d) U = some (nI (sm (fun d => eWf B M w d s) 10), U) := by
    intro m
    induction m with
    | zero =>
      intro f d hd hf
      obtain ⟨f, rfl⟩ : ∃ g, f = g + 1 := ⟨f - 1, by omega⟩
      have : d = 10 := by omega
      subst this
      rw [f_X5_waysOf_4]
      simp (disch := omega) only [k_let, Option.bind_some, ↓reduceIte, eq_self, true_or, or_true, n01_0, n01_1, kb_or, kb_0T, kb_0F, vn_0, vn_1, vn_k, nl_0, nl_1, nl_2, nl_3, nl_4, nl_5, nl_6, nl_7, nl_8, nl_9, nl_10, nl_11, nl_12, nl_13, nl_14, nl_15, nl_16, nl_20, nl_21, nl_22, nl_23, nl_24, nl_25, nl_26, nl_27, nl_28, nl_29, nl_30, nl_31, nl_32, nl_40, nl_41, nl_42, nl_43, nl_45, nl_47, nl_48, nl_50, nl_57, nl_59, nl_60, nl_61, nl_62, nl_63, nl_64, nl_91, nl_93, nl_94, nl_97, nl_98, nl_100, nl_110, nl_122, nl_130, nl_144, nl_160, nl_240, nl_241, nl_255, nl_256, nl_400, nl_800, nl_900, nl_999, nl_1000, nl_1001, nl_1024, nl_1103, nl_1928, nl_4321, nl_5560, nl_12345, nl_1000000, nl_1000003, nl_252645135, nl_858993459, nl_1431655765, nl_1000000000, nI_add, pk_mul, n_sub, n_neg, n_cl, leT, leF, ltT, ltF, eqT, eqF, kbT, s_II, s_In, s_IJ, s_IA, s_IL, s_IR, s_IC, s_JI, s_JJ, s_Jn, s_JA, s_JL, s_JR, s_JC, s_AI, s_AJ, s_AA, s_An, s_AL, s_AR, s_AC, s_LI, s_LJ, s_LA, s_LL, s_Ln, s_LR, s_LC]
    | succ m ih =>
      intro f d hd hf
      obtain ⟨f, rfl⟩ : ∃ g, f = g + 1 := ⟨f - 1, by omega⟩
      have b1 := e_ending (w := w) (show d < 10 by omega) hs hM (hB d (by omega)) (hB2 d) h27 (fun c _ => hw d c)
      rw [← ih f (d + 1) (by omega) (by omega), f_X5_waysOf_4]
      simp (disch := omega) only [k_let, Option.bind_some, ↓reduceIte, eq_self, true_or, or_true, n01_0, n01_1, kb_or, kb_0T, kb_0F, vn_0, vn_1, vn_k, nl_0, nl_1, nl_2, nl_3, nl_4, nl_5, nl_6, nl_7, nl_8, nl_9, nl_10, nl_11, nl_12, nl_13, nl_14, nl_15, nl_16, nl_20, nl_21, nl_22, nl_23, nl_24, nl_25, nl_26, nl_27, nl_28, nl_29, nl_30, nl_31, nl_32, nl_40, nl_41, nl_42, nl_43, nl_45, nl_47, nl_48, nl_50, nl_57, nl_59, nl_60, nl_61, nl_62, nl_63, nl_64, nl_91, nl_93, nl_94, nl_97, nl_98, nl_100, nl_110, nl_122, nl_130, nl_144, nl_160, nl_240, nl_241, nl_255, nl_256, nl_400, nl_800, nl_900, nl_999, nl_1000, nl_1001, nl_1024, nl_1103, nl_1928, nl_4321, nl_5560, nl_12345, nl_1000000, nl_1000003, nl_252645135, nl_858993459, nl_1431655765, nl_1000000000, leT, leF, ltT, ltF, eqT, eqF, kbT, ↓b_of b1, nI_add]
      rfl
  have := key 10 FU 0 (by decide) (FU_ge (by decide))
  unfold f_X5_waysOf
  exact this
theorem e_find {r : Nat → Int32} {S : St} (h : Ic r S) {t : Nat} (ht : t < 6) : ∃ W, f_X5_find (nI t) S = some W ∧ Fr [27] [] [42, 43] [] S W ∧ OrC r t W := by
  have n5 := h.1.n5
  have hM := mine_lt r t n5
  have t6 := h.1.t6
  have l68 : ∀ (m f s : Nat) (U : St), s + m = mine r t (rN r 5) + 1 → m < f → 0 < s → Fr [27] [] [42, 43] [] S U → Hb U 42 (bfo r) → gI U 27 = nI (mine r t (rN r 5)) → (∀ s', s' < s → s' &&& mine r t (rN r 5) = s' → gA U 43 s' = nI (wy (bfo r) (mine r t (rN r 5)) s')) → ∃ W, f_X5_find_68 f (nI s) U = some W ∧ Fr [27] [] [42, 43] [] S W ∧ OrC r t W := by
    intro m
    induction m with
    | zero =>
      intro f s U hs hf h0 hF hB h27 hw
      obtain ⟨f, rfl⟩ : ∃ g, f = g + 1 := ⟨f - 1, by omega⟩
      refine ⟨U, ?_, hF, hB, h27, fun s' h1 h2 => hw s' (by omega) h2⟩
      rw [f_X5_find_68, f_X5_find_112]
      simp (disch := omega) only [k_let, Option.bind_some, ↓reduceIte, eq_self, true_or, or_true, n01_0, n01_1, kb_or, kb_0T, kb_0F, vn_0, vn_1, vn_k, nl_0, nl_1, nl_2, nl_3, nl_4, nl_5, nl_6, nl_7, nl_8, nl_9, nl_10, nl_11, nl_12, nl_13, nl_14, nl_15, nl_16, nl_20, nl_21, nl_22, nl_23, nl_24, nl_25, nl_26, nl_27, nl_28, nl_29, nl_30, nl_31, nl_32, nl_40, nl_41, nl_42, nl_43, nl_45, nl_47, nl_48, nl_50, nl_57, nl_59, nl_60, nl_61, nl_62, nl_63, nl_64, nl_91, nl_93, nl_94, nl_97, nl_98, nl_100, nl_110, nl_122, nl_130, nl_144, nl_160, nl_240, nl_241, nl_255, nl_256, nl_400, nl_800, nl_900, nl_999, nl_1000, nl_1001, nl_1024, nl_1103, nl_1928, nl_4321, nl_5560, nl_12345, nl_1000000, nl_1000003, nl_252645135, nl_858993459, nl_1431655765, nl_1000000000, nI_add, pk_mul, n_sub, n_neg, n_cl, leT, leF, ltT, ltF, eqT, eqF, kbT, s_II, s_In, s_IJ, s_IA, s_IL, s_IR, s_IC, s_JI, s_JJ, s_Jn, s_JA, s_JL, s_JR, s_JC, s_AI, s_AJ, s_AA, s_An, s_AL, s_AR, s_AC, s_LI, s_LJ, s_LA, s_LL, s_Ln, s_LR, s_LC, h27]
    | succ m ih =>
      intro f s U hs hf h0 hF hB h27 hw
      obtain ⟨f, rfl⟩ : ∃ g, f = g + 1 := ⟨f - 1, by omega⟩
      have hle : s &&& mine r t (rN r 5) ≤ s := Nat.and_le_left
      by_cases c : s &&& mine r t (rN r 5) = s
      · have b1 := e_waysOf (w := wy (bfo r) (mine r t (rN r 5))) (show s < 1024 by omega) hM hB (bfo_lt h.1) h27 (fun d hd => hw _ (an_lt hd) (an_sub c))
        have ew := wy_eq (bfo r) (mine r t (rN r 5)) s
        rw [if_neg (show ¬ s = 0 by omega)] at ew
        rw [← ew] at b1
        have e : f_X5_find_68 (f + 1) (nI s) U = f_X5_find_68 f (nI (s + 1)) (sA U 43 s (nI (wy (bfo r) (mine r t (rN r 5)) s))) := by
          rw [f_X5_find_68]
          simp (disch := omega) only [k_let, Option.bind_some, ↓reduceIte, eq_self, true_or, or_true, n01_0, n01_1, kb_or, kb_0T, kb_0F, vn_0, vn_1, vn_k, nl_0, nl_1, nl_2, nl_3, nl_4, nl_5, nl_6, nl_7, nl_8, nl_9, nl_10, nl_11, nl_12, nl_13, nl_14, nl_15, nl_16, nl_20, nl_21, nl_22, nl_23, nl_24, nl_25, nl_26, nl_27, nl_28, nl_29, nl_30, nl_31, nl_32, nl_40, nl_41, nl_42, nl_43, nl_45, nl_47, nl_48, nl_50, nl_57, nl_59, nl_60, nl_61, nl_62, nl_63, nl_64, nl_91, nl_93, nl_94, nl_97, nl_98, nl_100, nl_110, nl_122, nl_130, nl_144, nl_160, nl_240, nl_241, nl_255, nl_256, nl_400, nl_800, nl_900, nl_999, nl_1000, nl_1001, nl_1024, nl_1103, nl_1928, nl_4321, nl_5560, nl_12345, nl_1000000, nl_1000003, nl_252645135, nl_858993459, nl_1431655765, nl_1000000000, nI_add, pk_mul, n_sub, n_neg, n_cl, leT, leF, ltT, ltF, eqT, eqF, kbT, s_II, s_In, s_IJ, s_IA, s_IL, s_IR, s_IC, s_JI, s_JJ, s_Jn, s_JA, s_JL, s_JR, s_JC, s_AI, s_AJ, s_AA, s_An, s_AL, s_AR, s_AC, s_LI, s_LJ, s_LA, s_LL, s_Ln, s_LR, s_LC, h27, n_and, c, ↓b_of b1, f_X5_find_106]
        rw [e]
        refine ih f (s + 1) _ (by omega) (by omega) (by omega) (hF.sA rfl _ _) hB h27 (fun s' h1 h2 => ?_)
        rw [s_AA, u_a]
        by_cases q : s' = s
        · rw [if_pos q, q]
        · rw [if_neg q]; exact hw s' (by omega) h2
      · have e : f_X5_find_68 (f + 1) (nI s) U = f_X5_find_68 f (nI (s + 1)) U := by
          rw [f_X5_find_68]
          simp (disch := omega) only [k_let, Option.bind_some, ↓reduceIte, eq_self, true_or, or_true, n01_0, n01_1, kb_or, kb_0T, kb_0F, vn_0, vn_1, vn_k, nl_0, nl_1, nl_2, nl_3, nl_4, nl_5, nl_6, nl_7, nl_8, nl_9, nl_10, nl_11, nl_12, nl_13, nl_14, nl_15, nl_16, nl_20, nl_21, nl_22, nl_23, nl_24, nl_25, nl_26, nl_27, nl_28, nl_29, nl_30, nl_31, nl_32, nl_40, nl_41, nl_42, nl_43, nl_45, nl_47, nl_48, nl_50, nl_57, nl_59, nl_60, nl_61, nl_62, nl_63, nl_64, nl_91, nl_93, nl_94, nl_97, nl_98, nl_100, nl_110, nl_122, nl_130, nl_144, nl_160, nl_240, nl_241, nl_255, nl_256, nl_400, nl_800, nl_900, nl_999, nl_1000, nl_1001, nl_1024, nl_1103, nl_1928, nl_4321, nl_5560, nl_12345, nl_1000000, nl_1000003, nl_252645135, nl_858993459, nl_1431655765, nl_1000000000, nI_add, pk_mul, n_sub, n_neg, n_cl, leT, leF, ltT, ltF, eqT, eqF, kbT, s_II, s_In, s_IJ, s_IA, s_IL, s_IR, s_IC, s_JI, s_JJ, s_Jn, s_JA, s_JL, s_JR, s_JC, s_AI, s_AJ, s_AA, s_An, s_AL, s_AR, s_AC, s_LI, s_LJ, s_LA, s_LL, s_Ln, s_LR, s_LC, h27, n_and, f_X5_find_106]
        rw [e]
        refine ih f (s + 1) U (by omega) (by omega) (by omega) hF hB h27 (fun s' h1 h2 => ?_)
        by_cases q : s' = s
        · exact absurd (q ▸ h2) c
        · exact hw s' (by omega) h2
  have l11 : ∀ (m f d : Nat) (U : St), d + m = rN r 5 → m < f → Fr [27] [] [42, 43] [] S U → Hb U 42 (bfo r) → gI U 27 = nI (mine r t d) → ∃ W, f_X5_find_11 f (nI t) (nI d) U = some W ∧ Fr [27] [] [42, 43] [] S W ∧ OrC r t W := by
    intro m
    induction m with
    | zero =>
      intro f d U hd hf hF hB h27
      obtain ⟨f, rfl⟩ : ∃ g, f = g + 1 := ⟨f - 1, by omega⟩
      have : d = rN r 5 := by omega
      subst this
      have hU := h.fr hF rfl rfl
      obtain ⟨W, w1, w2, w3⟩ := l68 (mine r t (rN r 5)) FU 1 (sA U 43 0 (nI 1)) (by omega) (FU_ge (by omega)) (by decide) (hF.sA rfl _ _) hB h27 (fun s' h1 _ => by
        have : s' = 0 := by omega
        subst this
        rw [s_AA, u_s, wy_eq, if_pos rfl])
      refine ⟨W, ?_, w2, w3⟩
      rw [← w1, f_X5_find_11]
      simp (disch := omega) only [k_let, Option.bind_some, ↓reduceIte, eq_self, true_or, or_true, n01_0, n01_1, kb_or, kb_0T, kb_0F, vn_0, vn_1, vn_k, nl_0, nl_1, nl_2, nl_3, nl_4, nl_5, nl_6, nl_7, nl_8, nl_9, nl_10, nl_11, nl_12, nl_13, nl_14, nl_15, nl_16, nl_20, nl_21, nl_22, nl_23, nl_24, nl_25, nl_26, nl_27, nl_28, nl_29, nl_30, nl_31, nl_32, nl_40, nl_41, nl_42, nl_43, nl_45, nl_47, nl_48, nl_50, nl_57, nl_59, nl_60, nl_61, nl_62, nl_63, nl_64, nl_91, nl_93, nl_94, nl_97, nl_98, nl_100, nl_110, nl_122, nl_130, nl_144, nl_160, nl_240, nl_241, nl_255, nl_256, nl_400, nl_800, nl_900, nl_999, nl_1000, nl_1001, nl_1024, nl_1103, nl_1928, nl_4321, nl_5560, nl_12345, nl_1000000, nl_1000003, nl_252645135, nl_858993459, nl_1431655765, nl_1000000000, nI_add, pk_mul, n_sub, n_neg, n_cl, leT, leF, ltT, ltF, eqT, eqF, kbT, s_II, s_In, s_IJ, s_IA, s_IL, s_IR, s_IC, s_JI, s_JJ, s_Jn, s_JA, s_JL, s_JR, s_JC, s_AI, s_AJ, s_AA, s_An, s_AL, s_AR, s_AC, s_LI, s_LJ, s_LA, s_LL, s_Ln, s_LR, s_LC, hU.d5, f_X5_find_59]
    | succ m ih =>
      intro f d U hd hf hF hB h27
      obtain ⟨f, rfl⟩ : ∃ g, f = g + 1 := ⟨f - 1, by omega⟩
      have hU := h.fr hF rfl rfl
      have hdn : d < rN r 5 := by omega
      have q2 := (hU.ee hdn).2
      have te := (h.1.ee hdn).2.2.2
      by_cases c : eT r d = t
      · have em : mine r t (d + 1) = mine r t d ||| 2 ^ d := if_pos (decide_eq_true c)
        have e : f_X5_find_11 (f + 1) (nI t) (nI d) U = f_X5_find_11 f (nI t) (nI (d + 1)) (sI U 27 (nI (mine r t (d + 1)))) := by
          rw [f_X5_find_11, em]
          simp (disch := omega) only [k_let, Option.bind_some, ↓reduceIte, eq_self, true_or, or_true, n01_0, n01_1, kb_or, kb_0T, kb_0F, vn_0, vn_1, vn_k, nl_0, nl_1, nl_2, nl_3, nl_4, nl_5, nl_6, nl_7, nl_8, nl_9, nl_10, nl_11, nl_12, nl_13, nl_14, nl_15, nl_16, nl_20, nl_21, nl_22, nl_23, nl_24, nl_25, nl_26, nl_27, nl_28, nl_29, nl_30, nl_31, nl_32, nl_40, nl_41, nl_42, nl_43, nl_45, nl_47, nl_48, nl_50, nl_57, nl_59, nl_60, nl_61, nl_62, nl_63, nl_64, nl_91, nl_93, nl_94, nl_97, nl_98, nl_100, nl_110, nl_122, nl_130, nl_144, nl_160, nl_240, nl_241, nl_255, nl_256, nl_400, nl_800, nl_900, nl_999, nl_1000, nl_1001, nl_1024, nl_1103, nl_1928, nl_4321, nl_5560, nl_12345, nl_1000000, nl_1000003, nl_252645135, nl_858993459, nl_1431655765, nl_1000000000, nI_add, pk_mul, n_sub, n_neg, n_cl, leT, leF, ltT, ltF, eqT, eqF, kbT, s_II, s_In, s_IJ, s_IA, s_IL, s_IR, s_IC, s_JI, s_JJ, s_Jn, s_JA, s_JL, s_JR, s_JC, s_AI, s_AJ, s_AA, s_An, s_AL, s_AR, s_AC, s_LI, s_LJ, s_LA, s_LL, s_Ln, s_LR, s_LC, hU.d5, q2, h27, n_shl1, n_or, f_X5_find_53]
        rw [e]
        exact ih f (d + 1) _ (by omega) (by omega) (hF.sI rfl _) hB (s_II _ _ _)
      · have em : mine r t (d + 1) = mine r t d := if_neg (by simpa using c)
        have e : f_X5_find_11 (f + 1) (nI t) (nI d) U = f_X5_find_11 f (nI t) (nI (d + 1)) U := by
          rw [f_X5_find_11]
          simp (disch := omega) only [k_let, Option.bind_some, ↓reduceIte, eq_self, true_or, or_true, n01_0, n01_1, kb_or, kb_0T, kb_0F, vn_0, vn_1, vn_k, nl_0, nl_1, nl_2, nl_3, nl_4, nl_5, nl_6, nl_7, nl_8, nl_9, nl_10, nl_11, nl_12, nl_13, nl_14, nl_15, nl_16, nl_20, nl_21, nl_22, nl_23, nl_24, nl_25, nl_26, nl_27, nl_28, nl_29, nl_30, nl_31, nl_32, nl_40, nl_41, nl_42, nl_43, nl_45, nl_47, nl_48, nl_50, nl_57, nl_59, nl_60, nl_61, nl_62, nl_63, nl_64, nl_91, nl_93, nl_94, nl_97, nl_98, nl_100, nl_110, nl_122, nl_130, nl_144, nl_160, nl_240, nl_241, nl_255, nl_256, nl_400, nl_800, nl_900, nl_999, nl_1000, nl_1001, nl_1024, nl_1103, nl_1928, nl_4321, nl_5560, nl_12345, nl_1000000, nl_1000003, nl_252645135, nl_858993459, nl_1431655765, nl_1000000000, nI_add, pk_mul, n_sub, n_neg, n_cl, leT, leF, ltT, ltF, eqT, eqF, kbT, s_II, s_In, s_IJ, s_IA, s_IL, s_IR, s_IC, s_JI, s_JJ, s_Jn, s_JA, s_JL, s_JR, s_JC, s_AI, s_AJ, s_AA, s_An, s_AL, s_AR, s_AC, s_LI, s_LJ, s_LA, s_LL, s_Ln, s_LR, s_LC, hU.d5, q2, f_X5_find_53]
        rw [e]
        exact ih f (d + 1) U (by omega) (by omega) hF hB (by rw [em]; exact h27)
  obtain ⟨A, a1, a2, a3⟩ := e_follow h
  obtain ⟨W, w1, w2, w3⟩ := l11 (rN r 5) FU 0 (sI A 27 (nI 0)) (by omega) (FU_ge (by omega)) ((a2.mono rfl rfl rfl rfl : Fr [27] [] [42, 43] [] S A).sI rfl _) a3 (s_II _ _ _)
  refine ⟨W, ?_, w2, w3⟩
  unfold f_X5_find
  simp (disch := omega) only [k_let, Option.bind_some, ↓reduceIte, eq_self, true_or, or_true, n01_0, n01_1, kb_or, kb_0T, kb_0F, vn_0, vn_1, vn_k, nl_0, nl_1, nl_2, nl_3, nl_4, nl_5, nl_6, nl_7, nl_8, nl_9, nl_10, nl_11, nl_12, nl_13, nl_14, nl_15, nl_16, nl_20, nl_21, nl_22, nl_23, nl_24, nl_25, nl_26, nl_27, nl_28, nl_29, nl_30, nl_31, nl_32, nl_40, nl_41, nl_42, nl_43, nl_45, nl_47, nl_48, nl_50, nl_57, nl_59, nl_60, nl_61, nl_62, nl_63, nl_64, nl_91, nl_93, nl_94, nl_97, nl_98, nl_100, nl_110, nl_122, nl_130, nl_144, nl_160, nl_240, nl_241, nl_255, nl_256, nl_400, nl_800, nl_900, nl_999, nl_1000, nl_1001, nl_1024, nl_1103, nl_1928, nl_4321, nl_5560, nl_12345, nl_1000000, nl_1000003, nl_252645135, nl_858993459, nl_1431655765, nl_1000000000, ↓b_of a1, w1]
theorem e_endedBy {r : Nat → Int32} {U : St} (h : Ic r U) {t k : Nat} (hk : k < 8) (hO : OrC r t U) : f_X5_endedBy (nI k) U = some (nI (lst r (mine r t (rN r 5)) k), U) := by
  have n5 := h.1.n5
  have hM := mine_lt r t n5
  obtain ⟨hB, h27, hw⟩ := hO
  generalize hMM : mine r t (rN r 5) = M at *
  have tb : ∀ d, M.testBit d = true → d < rN r 5 := fun d hd => by
    rw [← hMM, mine_tb, Bool.and_eq_true, decide_eq_true_eq] at hd
    exact hd.1
  have hss : ∀ d, M.testBit d = true → gA U 43 (an M (2 ^ d)) = nI (wy (bfo r) M (an M (2 ^ d))) := fun d hd => hw _ (an_le _ _) (an_sub (Nat.and_self M))
  have key : ∀ (m f d : Nat), d + m = rN r 5 → m < f → f_X5_endedBy_4 f (nI k) (nI (sm (fun d => if M.testBit d = true ∧ eD r d = k then eWf (bfo r) M (wy (bfo r) M) d M else 0) d)) (nI d) U = some (nI (sm (fun d => if M.testBit d = true ∧ eD r d = k then eWf (bfo r) M (wy (bfo r) M) d M else 0) (rN r 5)), U) := by
    intro m
    induction m with
    | zero =>
      intro f d hd hf
      obtain ⟨f, rfl⟩ : ∃ g, f = g + 1 := ⟨f - 1, by omega⟩
      have : d = rN r 5 := by omega
      subst this
      rw [f_X5_endedBy_4, f_X5_endedBy_52]
      simp (disch := omega) only [k_let, Option.bind_some, ↓reduceIte, eq_self, true_or, or_true, n01_0, n01_1, kb_or, kb_0T, kb_0F, vn_0, vn_1, vn_k, nl_0, nl_1, nl_2, nl_3, nl_4, nl_5, nl_6, nl_7, nl_8, nl_9, nl_10, nl_11, nl_12, nl_13, nl_14, nl_15, nl_16, nl_20, nl_21, nl_22, nl_23, nl_24, nl_25, nl_26, nl_27, nl_28, nl_29, nl_30, nl_31, nl_32, nl_40, nl_41, nl_42, nl_43, nl_45, nl_47, nl_48, nl_50, nl_57, nl_59, nl_60, nl_61, nl_62, nl_63, nl_64, nl_91, nl_93, nl_94, nl_97, nl_98, nl_100, nl_110, nl_122, nl_130, nl_144, nl_160, nl_240, nl_241, nl_255, nl_256, nl_400, nl_800, nl_900, nl_999, nl_1000, nl_1001, nl_1024, nl_1103, nl_1928, nl_4321, nl_5560, nl_12345, nl_1000000, nl_1000003, nl_252645135, nl_858993459, nl_1431655765, nl_1000000000, nI_add, pk_mul, n_sub, n_neg, n_cl, leT, leF, ltT, ltF, eqT, eqF, kbT, s_II, s_In, s_IJ, s_IA, s_IL, s_IR, s_IC, s_JI, s_JJ, s_Jn, s_JA, s_JL, s_JR, s_JC, s_AI, s_AJ, s_AA, s_An, s_AL, s_AR, s_AC, s_LI, s_LJ, s_LA, s_LL, s_Ln, s_LR, s_LC, h.d5]
    | succ m ih =>
      intro f d hd hf
      obtain ⟨f, rfl⟩ : ∃ g, f = g + 1 := ⟨f - 1, by omega⟩
      have hdn : d < rN r 5 := by omega
      have q1 := (h.ee hdn).1
      have e8 := (h.1.ee hdn).2.2.1
      have b1 := e_ending (w := wy (bfo r) M) (show d < 10 by omega) hM hM (hB d (by omega)) (bfo_lt h.1 d) h27 (fun c _ => hss d c)
      rw [← ih f (d + 1) (by omega) (by omega), f_X5_endedBy_4]
      have es : sm (fun d => if M.testBit d = true ∧ eD r d = k then eWf (bfo r) M (wy (bfo r) M) d M else 0) (d + 1) = sm (fun d => if M.testBit d = true ∧ eD r d = k then eWf (bfo r) M (wy (bfo r) M) d M else 0) d + (if M.testBit d = true ∧ eD r d = k then eWf (bfo r) M (wy (bfo r) M) d M else 0) := rfl
      by_cases c : eD r d = k
      · have ec : (if M.testBit d = true ∧ eD r d = k then eWf (bfo r) M (wy (bfo r) M) d M else 0) = eWf (bfo r) M (wy (bfo r) M) d M := by
          by_cases z : M.testBit d = true
          · rw [if_pos ⟨z, c⟩]
          · rw [if_neg (fun q => z q.1)]
            unfold eWf
            rw [if_neg (fun q => z q.1)]
        rw [es, ec]
        simp (disch := omega) only [k_let, Option.bind_some, ↓reduceIte, eq_self, true_or, or_true, n01_0, n01_1, kb_or, kb_0T, kb_0F, vn_0, vn_1, vn_k, nl_0, nl_1, nl_2, nl_3, nl_4, nl_5, nl_6, nl_7, nl_8, nl_9, nl_10, nl_11, nl_12, nl_13, nl_14, nl_15, nl_16, nl_20, nl_21, nl_22, nl_23, nl_24, nl_25, nl_26, nl_27, nl_28, nl_29, nl_30, nl_31, nl_32, nl_40, nl_41, nl_42, nl_43, nl_45, nl_47, nl_48, nl_50, nl_57, nl_59, nl_60, nl_61, nl_62, nl_63, nl_64, nl_91, nl_93, nl_94, nl_97, nl_98, nl_100, nl_110, nl_122, nl_130, nl_144, nl_160, nl_240, nl_241, nl_255, nl_256, nl_400, nl_800, nl_900, nl_999, nl_1000, nl_1001, nl_1024, nl_1103, nl_1928, nl_4321, nl_5560, nl_12345, nl_1000000, nl_1000003, nl_252645135, nl_858993459, nl_1431655765, nl_1000000000, leT, leF, ltT, ltF, eqT, eqF, kbT, nI_add, n_cl, h.d5, q1, h27, ↓b_of b1, b1, f_X5_endedBy_46]
      · have ec : (if M.testBit d = true ∧ eD r d = k then eWf (bfo r) M (wy (bfo r) M) d M else 0) = 0 := if_neg (fun q => c q.2)
        rw [es, ec]
        simp (disch := omega) only [k_let, Option.bind_some, ↓reduceIte, eq_self, true_or, or_true, n01_0, n01_1, kb_or, kb_0T, kb_0F, vn_0, vn_1, vn_k, nl_0, nl_1, nl_2, nl_3, nl_4, nl_5, nl_6, nl_7, nl_8, nl_9, nl_10, nl_11, nl_12, nl_13, nl_14, nl_15, nl_16, nl_20, nl_21, nl_22, nl_23, nl_24, nl_25, nl_26, nl_27, nl_28, nl_29, nl_30, nl_31, nl_32, nl_40, nl_41, nl_42, nl_43, nl_45, nl_47, nl_48, nl_50, nl_57, nl_59, nl_60, nl_61, nl_62, nl_63, nl_64, nl_91, nl_93, nl_94, nl_97, nl_98, nl_100, nl_110, nl_122, nl_130, nl_144, nl_160, nl_240, nl_241, nl_255, nl_256, nl_400, nl_800, nl_900, nl_999, nl_1000, nl_1001, nl_1024, nl_1103, nl_1928, nl_4321, nl_5560, nl_12345, nl_1000000, nl_1000003, nl_252645135, nl_858993459, nl_1431655765, nl_1000000000, leT, leF, ltT, ltF, eqT, eqF, kbT, nI_add, n_cl, h.d5, q1, f_X5_endedBy_46, Nat.add_zero]
  have k1 := key (rN r 5) FU 0 (by omega) (FU_ge (by omega))
  have ext : ∀ j, sm (fun d => if M.testBit d = true ∧ eD r d = k then eWf (bfo r) M (wy (bfo r) M) d M else 0) (rN r 5 + j) = sm (fun d => if M.testBit d = true ∧ eD r d = k then eWf (bfo r) M (wy (bfo r) M) d M else 0) (rN r 5) := by
    intro j
    induction j with
    | zero => rfl
    | succ j ih =>
      show sm _ (rN r 5 + j) + (if M.testBit (rN r 5 + j) = true ∧ eD r (rN r 5 + j) = k then eWf (bfo r) M (wy (bfo r) M) (rN r 5 + j) M else 0) = _
      rw [ih, if_neg (fun q => by have := tb _ q.1; omega)]
      rfl
  have e10 := ext (10 - rN r 5)
  rw [show rN r 5 + (10 - rN r 5) = 10 by omega] at e10
  unfold f_X5_endedBy lst
  rw [e10]
  exact k1
