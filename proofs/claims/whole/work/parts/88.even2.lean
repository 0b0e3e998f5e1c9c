/-! part 88: what the evenings' paper says -/
def suO (r : Nat → Int32) (O : Nat → Nat) (k d : Nat) : Nat := if O d = k then dHa r d else 0
def orO (r : Nat → Int32) (O : Nat → Nat) (k : Nat) : Nat → Nat
  | 0 => 0
  | d + 1 => if O d = k then orO r O k d ||| 2 ^ dCr r d else orO r O k d
theorem suO_bd {r : Nat → Int32} (w : Wf r) (O : Nat → Nat) (k : Nat) {d : Nat} (hd : d ≤ nD r) : sm (suO r O k) d ≤ 144 := by
  have h16 := w.n16
  have := sm_le (f := suO r O k) (b := 9) (n := d) (fun e he => by
    have := w.ha (show e < nD r by omega)
    unfold suO
    by_cases c : O e = k
    · rw [if_pos c]; omega
    · rw [if_neg c]; omega)
  omega
theorem orO_bd {r : Nat → Int32} (w : Wf r) (O : Nat → Nat) (k : Nat) : ∀ {d : Nat}, d ≤ nD r → orO r O k d < 256 := by
  intro d
  induction d with
  | zero => intro _; exact (show (0 : Nat) < 256 by decide)
  | succ d ih =>
    intro hd
    have i1 := ih (by omega)
    have c8 := (w.cr (show d < nD r by omega)).2
    show (if O d = k then orO r O k d ||| 2 ^ dCr r d else orO r O k d) < 256
    by_cases c : O d = k
    · rw [if_pos c]; exact or_lt (m := 8) i1 c8
    · rw [if_neg c]; exact i1
theorem e_fill46 {S : St} : ∃ T, f_J7_fill_53178_a46 (nI 0) S = some T ∧ Fr [] [] [46] [] S T ∧ ∀ i, i < 8 → gA T 46 i = nI 0 := by
  have key : ∀ (m f i : Nat) (U : St), i + m = 8 → m < f → Fr [] [] [46] [] S U → (∀ j, j < i → gA U 46 j = nI 0) → ∃ T, f_J7_fill_53178_a46_5 f (nI 0) (nI i) (nI 8) U = some T ∧ Fr [] [] [46] [] S T ∧ ∀ i, i < 8 → gA T 46 i = nI 0 := by
    intro m
    induction m with
    | zero =>
      intro f i U hi hf hF hp
      obtain ⟨f, rfl⟩ : ∃ g, f = g + 1 := ⟨f - 1, by omega⟩
      have : i = 8 := by omega
      subst this
      refine ⟨U, ?_, hF, hp⟩
      rw [f_J7_fill_53178_a46_5]
      simp (disch := omega) only [k_let, Option.bind_some, ↓reduceIte, eq_self, true_or, or_true, n01_0, n01_1, kb_or, kb_0T, kb_0F, vn_0, vn_1, vn_k, nl_0, nl_1, nl_2, nl_3, nl_4, nl_5, nl_6, nl_7, nl_8, nl_9, nl_10, nl_11, nl_12, nl_13, nl_14, nl_15, nl_16, nl_20, nl_21, nl_22, nl_23, nl_24, nl_25, nl_26, nl_27, nl_28, nl_29, nl_30, nl_31, nl_32, nl_40, nl_41, nl_42, nl_43, nl_45, nl_47, nl_48, nl_50, nl_57, nl_59, nl_60, nl_61, nl_62, nl_63, nl_64, nl_91, nl_93, nl_94, nl_97, nl_98, nl_100, nl_110, nl_122, nl_130, nl_144, nl_160, nl_240, nl_241, nl_255, nl_256, nl_400, nl_800, nl_900, nl_999, nl_1000, nl_1001, nl_1024, nl_1103, nl_1928, nl_4321, nl_5560, nl_12345, nl_1000000, nl_1000003, nl_252645135, nl_858993459, nl_1431655765, nl_1000000000, nI_add, pk_mul, n_sub, n_neg, n_cl, leT, leF, ltT, ltF, eqT, eqF, kbT, s_II, s_In, s_IJ, s_IA, s_IL, s_IR, s_IC, s_JI, s_JJ, s_Jn, s_JA, s_JL, s_JR, s_JC, s_AI, s_AJ, s_AA, s_An, s_AL, s_AR, s_AC, s_LI, s_LJ, s_LA, s_LL, s_Ln, s_LR, s_LC]
    | succ m ih =>
      intro f i U hi hf hF hp
      obtain ⟨f, rfl⟩ : ∃ g, f = g + 1 := ⟨f - 1, by omega⟩
      have e : f_J7_fill_53178_a46_5 (f + 1) (nI 0) (nI i) (nI 8) U = f_J7_fill_53178_a46_5 f (nI 0) (nI (i + 1)) (nI 8) (sA U 46 i (nI 0)) := by
        rw [f_J7_fill_53178_a46_5]
        simp (disch := omega) only [k_let, Option.bind_some, ↓reduceIte, eq_self, true_or, or_true, n01_0, n01_1, kb_or, kb_0T, kb_0F, vn_0, vn_1, vn_k, nl_0, nl_1, nl_2, nl_3, nl_4, nl_5, nl_6, nl_7, nl_8, nl_9, nl_10, nl_11, nl_12, nl_13, nl_14, nl_15, nl_16, nl_20, nl_21, nl_22, nl_23, nl_24, nl_25, nl_26, nl_27, nl_28, nl_29, nl_30, nl_31, nl_32, nl_40, nl_41, nl_42, nl_43, nl_45, nl_47, nl_48, nl_50, nl_57, nl_59, nl_60, nl_61, nl_62, nl_63, nl_64, nl_91, nl_93, nl_94, nl_97, nl_98, nl_100, nl_110, nl_122, nl_130, nl_144, nl_160, nl_240, nl_241, nl_255, nl_256, nl_400, nl_800, nl_900, nl_999, nl_1000, nl_1001, nl_1024, nl_1103, nl_1928, nl_4321, nl_5560, nl_12345, nl_1000000, nl_1000003, nl_252645135, nl_858993459, nl_1431655765, nl_1000000000, nI_add, pk_mul, n_sub, n_neg, n_cl, leT, leF, ltT, ltF, eqT, eqF, kbT, s_II, s_In, s_IJ, s_IA, s_IL, s_IR, s_IC, s_JI, s_JJ, s_Jn, s_JA, s_JL, s_JR, s_JC, s_AI, s_AJ, s_AA, s_An, s_AL, s_AR, s_AC, s_LI, s_LJ, s_LA, s_LL, s_Ln, s_LR, s_LC]
      rw [e]
      refine ih f (i + 1) _ (by omega) (by omega) (hF.sA rfl _ _) (fun j hj => ?_)
      rw [s_AA, u_a]
      by_cases q : j = i
      · rw [if_pos q]
      · rw [if_neg q]; exact hp j (by omega)
  unfold f_J7_fill_53178_a46
  exact key 8 FU 0 S (by omega) (FU_ge (by decide)) (Fr.refl _) (fun j hj => absurd hj (Nat.not_lt_zero _))
theorem e_fill47 {S : St} : ∃ T, f_J7_fill_53178_a47 (nI 0) S = some T ∧ Fr [] [] [47] [] S T ∧ ∀ i, i < 8 → gA T 47 i = nI 0 := by
  have key : ∀ (m f i : Nat) (U : St), i + m = 8 → m < f → Fr [] [] [47] [] S U → (∀ j, j < i → gA U 47 j = nI 0) → ∃ T, f_J7_fill_53178_a47_5 f (nI 0) (nI i) (nI 8) U = some T ∧ Fr [] [] [47] [] S T ∧ ∀ i, i < 8 → gA T 47 i = nI 0 := by
    intro m
    induction m with
    | zero =>
      intro f i U hi hf hF hp
      obtain ⟨f, rfl⟩ : ∃ g, f = g + 1 := ⟨f - 1, by omega⟩
      have : i = 8 := by omega
      subst this
      refine ⟨U, ?_, hF, hp⟩
      rw [f_J7_fill_53178_a47_5]
      simp (disch := omega) only [k_let, Option.bind_some, ↓reduceIte, eq_self, true_or, or_true, n01_0, n01_1, kb_or, kb_0T, kb_0F, vn_0, vn_1, vn_k, nl_0, nl_1, nl_2, nl_3, nl_4, nl_5, nl_6, nl_7, nl_8, nl_9, nl_10, nl_11, nl_12, nl_13, nl_14, nl_15, nl_16, nl_20, nl_21, nl_22, nl_23, nl_24, nl_25, nl_26, nl_27, nl_28, nl_29, nl_30, nl_31, nl_32, nl_40, nl_41, nl_42, nl_43, nl_45, nl_47, nl_48, nl_50, nl_57, nl_59, nl_60, nl_61, nl_62, nl_63, nl_64, nl_91, nl_93, nl_94, nl_97, nl_98, nl_100, nl_110, nl_122, nl_130, nl_144, nl_160, nl_240, nl_241, nl_255, nl_256, nl_400, nl_800, nl_900, nl_999, nl_1000, nl_1001, nl_1024, nl_1103, nl_1928, nl_4321, nl_5560, nl_12345, nl_1000000, nl_1000003, nl_252645135, nl_858993459, nl_1431655765, nl_1000000000, nI_add, pk_mul, n_sub, n_neg, n_cl, leT, leF, ltT, ltF, eqT, eqF, kbT, s_II, s_In, s_IJ, s_IA, s_IL, s_IR, s_IC, s_JI, s_JJ, s_Jn, s_JA, s_JL, s_JR, s_JC, s_AI, s_AJ, s_AA, s_An, s_AL, s_AR, s_AC, s_LI, s_LJ, s_LA, s_LL, s_Ln, s_LR, s_LC]
    | succ m ih =>
      intro f i U hi hf hF hp
      obtain ⟨f, rfl⟩ : ∃ g, f = g + 1 := ⟨f - 1, by omega⟩
      have e : f_J7_fill_53178_a47_5 (f + 1) (nI 0) (nI i) (nI 8) U = f_J7_fill_53178_a47_5 f (nI 0) (nI (i + 1)) (nI 8) (sA U 47 i (nI 0)) := by
        rw [f_J7_fill_53178_a47_5]
        simp (disch := omega) only [k_let, Option.bind_some, ↓reduceIte, eq_self, true_or, or_true, n01_0, n01_1, kb_or, kb_0T, kb_0F, vn_0, vn_1, vn_k, nl_0, nl_1, nl_2, nl_3, nl_4, nl_5, nl_6, nl_7, nl_8, nl_9, nl_10, nl_11, nl_12, nl_13, nl_14, nl_15, nl_16, nl_20, nl_21, nl_22, nl_23, nl_24, nl_25, nl_26, nl_27, nl_28, nl_29, nl_30, nl_31, nl_32, nl_40, nl_41, nl_42, nl_43, nl_45, nl_47, nl_48, nl_50, nl_57, nl_59, nl_60, nl_61, nl_62, nl_63, nl_64, nl_91, nl_93, nl_94, nl_97, nl_98, nl_100, nl_110, nl_122, nl_130, nl_144, nl_160, nl_240, nl_241, nl_255, nl_256, nl_400, nl_800, nl_900, nl_999, nl_1000, nl_1001, nl_1024, nl_1103, nl_1928, nl_4321, nl_5560, nl_12345, nl_1000000, nl_1000003, nl_252645135, nl_858993459, nl_1431655765, nl_1000000000, nI_add, pk_mul, n_sub, n_neg, n_cl, leT, leF, ltT, ltF, eqT, eqF, kbT, s_II, s_In, s_IJ, s_IA, s_IL, s_IR, s_IC, s_JI, s_JJ, s_Jn, s_JA, s_JL, s_JR, s_JC, s_AI, s_AJ, s_AA, s_An, s_AL, s_AR, s_AC, s_LI, s_LJ, s_LA, s_LL, s_Ln, s_LR, s_LC]
      rw [e]
      refine ih f (i + 1) _ (by omega) (by omega) (hF.sA rfl _ _) (fun j hj => ?_)
      rw [s_AA, u_a]
      by_cases q : j = i
      · rw [if_pos q]
      · rw [if_neg q]; exact hp j (by omega)
  unfold f_J7_fill_53178_a47
  exact key 8 FU 0 S (by omega) (FU_ge (by decide)) (Fr.refl _) (fun j hj => absurd hj (Nat.not_lt_zero _))
theorem l_add18 {r : Nat → Int32} {S : St} {O : Nat → Nat} (h : Ic r S) (hO : ∀ e, e < nD r → gA S 45 e = nI (O e) ∧ O e < 8) : ∀ (m f d : Nat) (U : St), d + m = nD r → m < f → Fr [] [] [46, 47] [] S U → (∀ k, k < 8 → gA U 46 k = nI (sm (suO r O k) d) ∧ gA U 47 k = nI (orO r O k d)) →
    ∃ W, f_X6_addUp_18 f (nI d) U = some W ∧ Fr [] [] [46, 47] [] S W ∧ (∀ k, k < 8 → gA W 46 k = nI (sm (suO r O k) (nD r)) ∧ gA W 47 k = nI (orO r O k (nD r))) := by
  have h16 := h.1.n16
  intro m
  induction m with
  | zero =>
    intro f d U hd hf hF hR
    obtain ⟨f, rfl⟩ : ∃ g, f = g + 1 := ⟨f - 1, by omega⟩
    have : d = nD r := by omega
    subst this
    have h1 := (h.fr hF rfl rfl).I1
    refine ⟨U, ?_, hF, hR⟩
    rw [f_X6_addUp_18, f_X6_addUp_93]
    simp (disch := omega) only [k_let, Option.bind_some, ↓reduceIte, eq_self, true_or, or_true, n01_0, n01_1, kb_or, kb_0T, kb_0F, vn_0, vn_1, vn_k, nl_0, nl_1, nl_2, nl_3, nl_4, nl_5, nl_6, nl_7, nl_8, nl_9, nl_10, nl_11, nl_12, nl_13, nl_14, nl_15, nl_16, nl_20, nl_21, nl_22, nl_23, nl_24, nl_25, nl_26, nl_27, nl_28, nl_29, nl_30, nl_31, nl_32, nl_40, nl_41, nl_42, nl_43, nl_45, nl_47, nl_48, nl_50, nl_57, nl_59, nl_60, nl_61, nl_62, nl_63, nl_64, nl_91, nl_93, nl_94, nl_97, nl_98, nl_100, nl_110, nl_122, nl_130, nl_144, nl_160, nl_240, nl_241, nl_255, nl_256, nl_400, nl_800, nl_900, nl_999, nl_1000, nl_1001, nl_1024, nl_1103, nl_1928, nl_4321, nl_5560, nl_12345, nl_1000000, nl_1000003, nl_252645135, nl_858993459, nl_1431655765, nl_1000000000, nI_add, pk_mul, n_sub, n_neg, n_cl, leT, leF, ltT, ltF, eqT, eqF, kbT, s_II, s_In, s_IJ, s_IA, s_IL, s_IR, s_IC, s_JI, s_JJ, s_Jn, s_JA, s_JL, s_JR, s_JC, s_AI, s_AJ, s_AA, s_An, s_AL, s_AR, s_AC, s_LI, s_LJ, s_LA, s_LL, s_Ln, s_LR, s_LC, h1]
  | succ m ih =>
    intro f d U hd hf hF hR
    obtain ⟨f, rfl⟩ : ∃ g, f = g + 1 := ⟨f - 1, by omega⟩
    have hdn : d < nD r := by omega
    have hU := h.fr hF rfl rfl
    have h1 := hU.I1
    obtain ⟨o1, o2⟩ := hO d hdn
    rw [← hF.A (k := 45) rfl] at o1
    obtain ⟨q1, q2, q3, q4, q5⟩ := hU.C hdn
    have c8 := (hU.1.cr hdn).2
    have a8 := (hU.1.ha hdn).2
    obtain ⟨r1, r2⟩ := hR (O d) o2
    have b0 := e_dancer (nI (O d)) U
    rw [decide_eq_true (show 0 ≤ (nI (O d)).toInt ∧ (nI (O d)).toInt ≤ 7 by rw [n_ti (by omega)]; omega), kB_t] at b0
    have s1 := suO_bd hU.1 O (O d) (d := d) (by omega)
    have s2 := orO_bd hU.1 O (O d) (d := d) (by omega)
    have e : f_X6_addUp_18 (f + 1) (nI d) U = f_X6_addUp_18 f (nI (d + 1)) (sA (sA U 46 (O d) (nI (sm (suO r O (O d)) d + dHa r d))) 47 (O d) (nI (orO r O (O d) d ||| 2 ^ dCr r d))) := by
      rw [f_X6_addUp_18]
      simp (disch := omega) only [k_let, Option.bind_some, ↓reduceIte, eq_self, true_or, or_true, n01_0, n01_1, kb_or, kb_0T, kb_0F, vn_0, vn_1, vn_k, nl_0, nl_1, nl_2, nl_3, nl_4, nl_5, nl_6, nl_7, nl_8, nl_9, nl_10, nl_11, nl_12, nl_13, nl_14, nl_15, nl_16, nl_20, nl_21, nl_22, nl_23, nl_24, nl_25, nl_26, nl_27, nl_28, nl_29, nl_30, nl_31, nl_32, nl_40, nl_41, nl_42, nl_43, nl_45, nl_47, nl_48, nl_50, nl_57, nl_59, nl_60, nl_61, nl_62, nl_63, nl_64, nl_91, nl_93, nl_94, nl_97, nl_98, nl_100, nl_110, nl_122, nl_130, nl_144, nl_160, nl_240, nl_241, nl_255, nl_256, nl_400, nl_800, nl_900, nl_999, nl_1000, nl_1001, nl_1024, nl_1103, nl_1928, nl_4321, nl_5560, nl_12345, nl_1000000, nl_1000003, nl_252645135, nl_858993459, nl_1431655765, nl_1000000000, nI_add, pk_mul, n_sub, n_neg, n_cl, leT, leF, ltT, ltF, eqT, eqF, kbT, s_II, s_In, s_IJ, s_IA, s_IL, s_IR, s_IC, s_JI, s_JJ, s_Jn, s_JA, s_JL, s_JR, s_JC, s_AI, s_AJ, s_AA, s_An, s_AL, s_AR, s_AC, s_LI, s_LJ, s_LA, s_LL, s_Ln, s_LR, s_LC, h1, o1, ↓b_of b0, q4, q2, r1, r2, n_shl1, n_or, f_X6_addUp_87]
    rw [e]
    refine ih f (d + 1) _ (by omega) (by omega) ((hF.sA rfl _ _).sA rfl _ _) (fun k hk => ?_)
    have x1 : sm (suO r O k) (d + 1) = sm (suO r O k) d + (if O d = k then dHa r d else 0) := rfl
    have x2 : orO r O k (d + 1) = if O d = k then orO r O k d ||| 2 ^ dCr r d else orO r O k d := rfl
    rw [x1, x2, s_AA, s_An (by decide), s_AA]
    by_cases q : k = O d
    · subst q
      rw [u_s, u_s, if_pos rfl, if_pos rfl]; exact ⟨rfl, rfl⟩
    · rw [u_n q, u_n q, if_neg (fun z => q z.symm), if_neg (fun z => q z.symm)]; exact hR k hk
theorem e_upC {r : Nat → Int32} {S : St} {O : Nat → Nat} (h : Ic r S) (hO : ∀ e, e < nD r → gA S 45 e = nI (O e) ∧ O e < 8) : ∃ W, f_X6_addUp S = some W ∧ Fr [] [] [46, 47] [] S W ∧ (∀ k, k < 8 → gA W 46 k = nI (sm (suO r O k) (nD r)) ∧ gA W 47 k = nI (orO r O k (nD r))) := by
  obtain ⟨A, a1, a2, a3⟩ := e_fill46 (S := S)
  obtain ⟨B, b1, b2, b3⟩ := e_fill47 (S := A)
  have fB : Fr [] [] [46, 47] [] S B := (a2.mono rfl rfl rfl rfl).trans (b2.mono rfl rfl rfl rfl)
  obtain ⟨W, w1, w2, w3⟩ := l_add18 (h.fr fB rfl rfl) (O := O) (fun e he => by rw [fB.A (k := 45) rfl]; exact hO e he) (nD r) FU 0 B (by omega) (FU_ge (by have := h.1.n16; omega)) (Fr.refl _) (fun k hk => ⟨by rw [b2.A (k := 46) rfl]; exact a3 k hk, b3 k hk⟩)
  refine ⟨W, ?_, fB.trans w2, w3⟩
  unfold f_X6_addUp
  simp (disch := omega) only [k_let, Option.bind_some, ↓reduceIte, eq_self, true_or, or_true, n01_0, n01_1, kb_or, kb_0T, kb_0F, vn_0, vn_1, vn_k, nl_0, nl_1, nl_2, nl_3, nl_4, nl_5, nl_6, nl_7, nl_8, nl_9, nl_10, nl_11, nl_12, nl_13, nl_14, nl_15, nl_16, nl_20, nl_21, nl_22, nl_23, nl_24, nl_25, nl_26, nl_27, nl_28, nl_29, nl_30, nl_31, nl_32, nl_40, nl_41, nl_42, nl_43, nl_45, nl_47, nl_48, nl_50, nl_57, nl_59, nl_60, nl_61, nl_62, nl_63, nl_64, nl_91, nl_93, nl_94, nl_97, nl_98, nl_100, nl_110, nl_122, nl_130, nl_144, nl_160, nl_240, nl_241, nl_255, nl_256, nl_400, nl_800, nl_900, nl_999, nl_1000, nl_1001, nl_1024, nl_1103, nl_1928, nl_4321, nl_5560, nl_12345, nl_1000000, nl_1000003, nl_252645135, nl_858993459, nl_1431655765, nl_1000000000, nI_add, pk_mul, n_sub, n_neg, n_cl, leT, leF, ltT, ltF, eqT, eqF, kbT, s_II, s_In, s_IJ, s_IA, s_IL, s_IR, s_IC, s_JI, s_JJ, s_Jn, s_JA, s_JL, s_JR, s_JC, s_AI, s_AJ, s_AA, s_An, s_AL, s_AR, s_AC, s_LI, s_LJ, s_LA, s_LL, s_Ln, s_LR, s_LC, ↓b_of a1, ↓b_of b1, w1]
theorem l_m246 {r : Nat → Int32} {S : St} {O : Nat → Nat} {K : Int32 → Int32 → St → Option (Int32 × St)} {x : Int32} {k : Nat} (hk : k < 8) (h : Ir r S) (hO : ∀ e, e < nD r → gA S 79 e = nI (O e) ∧ O e < 8) : ∀ (m f d : Nat) (U : St), d + m = nD r → m < f → Fr [] [] [80] [] S U → gA U 80 (2 * k) = nI (sm (suO r O k) d) → (∀ j, j < 2 * k → gA U 80 j = gA S 80 j) →
    ∃ W, f_X12_evenings_246 K f x (nI k) (nI (orO r O k d)) (nI d) U = K x (nI (k + 1)) W ∧ Fr [] [] [80] [] S W ∧ gA W 80 (2 * k) = nI (sm (suO r O k) (nD r)) ∧ gA W 80 (2 * k + 1) = nI (pc16 (orO r O k (nD r))) ∧ (∀ j, j < 2 * k → gA W 80 j = gA S 80 j) := by
  have h16 := h.1.n16
  intro m
  induction m with
  | zero =>
    intro f d U hd hf hF h0 hJ
    obtain ⟨f, rfl⟩ : ∃ g, f = g + 1 := ⟨f - 1, by omega⟩
    have : d = nD r := by omega
    subst this
    have pn := e_m_n (h.fr hF rfl)
    have s2 := orO_bd h.1 O k (d := nD r) (by omega)
    have pb := e_bits (s := orO r O k (nD r)) (by omega) U
    refine ⟨sA U 80 (2 * k + 1) (nI (pc16 (orO r O k (nD r)))), ?_, hF.sA rfl _ _, ?_, ?_, fun j hj => ?_⟩
    · rw [f_X12_evenings_246]
      simp (disch := omega) only [k_let, Option.bind_some, ↓reduceIte, eq_self, true_or, or_true, n01_0, n01_1, kb_or, kb_0T, kb_0F, vn_0, vn_1, vn_k, nl_0, nl_1, nl_2, nl_3, nl_4, nl_5, nl_6, nl_7, nl_8, nl_9, nl_10, nl_11, nl_12, nl_13, nl_14, nl_15, nl_16, nl_20, nl_21, nl_22, nl_23, nl_24, nl_25, nl_26, nl_27, nl_28, nl_29, nl_30, nl_31, nl_32, nl_40, nl_41, nl_42, nl_43, nl_45, nl_47, nl_48, nl_50, nl_57, nl_59, nl_60, nl_61, nl_62, nl_63, nl_64, nl_91, nl_93, nl_94, nl_97, nl_98, nl_100, nl_110, nl_122, nl_130, nl_144, nl_160, nl_240, nl_241, nl_255, nl_256, nl_400, nl_800, nl_900, nl_999, nl_1000, nl_1001, nl_1024, nl_1103, nl_1928, nl_4321, nl_5560, nl_12345, nl_1000000, nl_1000003, nl_252645135, nl_858993459, nl_1431655765, nl_1000000000, nI_add, pk_mul, n_sub, n_neg, n_cl, leT, leF, ltT, ltF, eqT, eqF, kbT, s_II, s_In, s_IJ, s_IA, s_IL, s_IR, s_IC, s_JI, s_JJ, s_Jn, s_JA, s_JL, s_JR, s_JC, s_AI, s_AJ, s_AA, s_An, s_AL, s_AR, s_AC, s_LI, s_LJ, s_LA, s_LL, s_Ln, s_LR, s_LC, ↓b_of pn, ↓b_of pb]
    · rw [s_AA, u_n (by omega)]; exact h0
    · rw [s_AA, u_s]
    · rw [s_AA, u_n (by omega)]; exact hJ j hj
  | succ m ih =>
    intro f d U hd hf hF h0 hJ
    obtain ⟨f, rfl⟩ : ∃ g, f = g + 1 := ⟨f - 1, by omega⟩
    have hdn : d < nD r := by omega
    have hU := h.fr hF rfl
    have pn := e_m_n hU
    obtain ⟨o1, o2⟩ := hO d hdn
    rw [← hF.A (k := 79) rfl] at o1
    have c8 := (hU.1.cr hdn).2
    have a8 := (hU.1.ha hdn).2
    have p3 : f_X12_ofDebt (nI d) (3 : Int32) U = some (nI (dHa r d), U) := e_m_ha hU hdn
    have x1 : sm (suO r O k) (d + 1) = sm (suO r O k) d + (if O d = k then dHa r d else 0) := rfl
    have x2 : orO r O k (d + 1) = if O d = k then orO r O k d ||| 2 ^ dCr r d else orO r O k d := rfl
    have hU2 : ∀ v, Ir r (sA U 80 (2 * k) v) := fun v => h.fr (hF.sA (k := 80) rfl (2 * k) v) rfl
    have p1 : ∀ v, f_X12_ofDebt (nI d) (nI 1) (sA U 80 (2 * k) v) = some (nI (dCr r d), sA U 80 (2 * k) v) := fun v => e_m_cr (hU2 v) hdn
    have e : f_X12_evenings_246 K (f + 1) x (nI k) (nI (orO r O k d)) (nI d) U = f_X12_evenings_246 K f x (nI k) (nI (orO r O k (d + 1))) (nI (d + 1)) (sA U 80 (2 * k) (nI (sm (suO r O k) (d + 1)))) := by
      rw [f_X12_evenings_246, x1, x2]
      by_cases q : O d = k
      · simp (disch := omega) only [k_let, Option.bind_some, ↓reduceIte, eq_self, true_or, or_true, n01_0, n01_1, kb_or, kb_0T, kb_0F, vn_0, vn_1, vn_k, nl_0, nl_1, nl_2, nl_3, nl_4, nl_5, nl_6, nl_7, nl_8, nl_9, nl_10, nl_11, nl_12, nl_13, nl_14, nl_15, nl_16, nl_20, nl_21, nl_22, nl_23, nl_24, nl_25, nl_26, nl_27, nl_28, nl_29, nl_30, nl_31, nl_32, nl_40, nl_41, nl_42, nl_43, nl_45, nl_47, nl_48, nl_50, nl_57, nl_59, nl_60, nl_61, nl_62, nl_63, nl_64, nl_91, nl_93, nl_94, nl_97, nl_98, nl_100, nl_110, nl_122, nl_130, nl_144, nl_160, nl_240, nl_241, nl_255, nl_256, nl_400, nl_800, nl_900, nl_999, nl_1000, nl_1001, nl_1024, nl_1103, nl_1928, nl_4321, nl_5560, nl_12345, nl_1000000, nl_1000003, nl_252645135, nl_858993459, nl_1431655765, nl_1000000000, nI_add, pk_mul, n_sub, n_neg, n_cl, leT, leF, ltT, ltF, eqT, eqF, kbT, s_II, s_In, s_IJ, s_IA, s_IL, s_IR, s_IC, s_JI, s_JJ, s_Jn, s_JA, s_JL, s_JR, s_JC, s_AI, s_AJ, s_AA, s_An, s_AL, s_AR, s_AC, s_LI, s_LJ, s_LA, s_LL, s_Ln, s_LR, s_LC, ↓b_of pn, o1, ↓b_of p3, h0, p1, n_shl1, n_or, f_X12_evenings_288, f_X12_evenings_317, q]
      · simp (disch := omega) only [k_let, Option.bind_some, ↓reduceIte, eq_self, true_or, or_true, n01_0, n01_1, kb_or, kb_0T, kb_0F, vn_0, vn_1, vn_k, nl_0, nl_1, nl_2, nl_3, nl_4, nl_5, nl_6, nl_7, nl_8, nl_9, nl_10, nl_11, nl_12, nl_13, nl_14, nl_15, nl_16, nl_20, nl_21, nl_22, nl_23, nl_24, nl_25, nl_26, nl_27, nl_28, nl_29, nl_30, nl_31, nl_32, nl_40, nl_41, nl_42, nl_43, nl_45, nl_47, nl_48, nl_50, nl_57, nl_59, nl_60, nl_61, nl_62, nl_63, nl_64, nl_91, nl_93, nl_94, nl_97, nl_98, nl_100, nl_110, nl_122, nl_130, nl_144, nl_160, nl_240, nl_241, nl_255, nl_256, nl_400, nl_800, nl_900, nl_999, nl_1000, nl_1001, nl_1024, nl_1103, nl_1928, nl_4321, nl_5560, nl_12345, nl_1000000, nl_1000003, nl_252645135, nl_858993459, nl_1431655765, nl_1000000000, nI_add, pk_mul, n_sub, n_neg, n_cl, leT, leF, ltT, ltF, eqT, eqF, kbT, s_II, s_In, s_IJ, s_IA, s_IL, s_IR, s_IC, s_JI, s_JJ, s_Jn, s_JA, s_JL, s_JR, s_JC, s_AI, s_AJ, s_AA, s_An, s_AL, s_AR, s_AC, s_LI, s_LJ, s_LA, s_LL, s_Ln, s_LR, s_LC, ↓b_of pn, o1, h0, n_or, f_X12_evenings_288, f_X12_evenings_317, q, if_neg, Nat.or_zero]
    rw [e]
    refine ih f (d + 1) _ (by omega) (by omega) (hF.sA rfl _ _) ?_ (fun j hj => ?_)
    · rw [s_AA, u_s]
    · rw [s_AA, u_n (by omega)]; exact hJ j hj
theorem l_m223 {r : Nat → Int32} {S : St} {O : Nat → Nat} {x : Nat} (hx : x ≤ 120) (h : Ir r S) (hO : ∀ e, e < nD r → gA S 79 e = nI (O e) ∧ O e < 8) : ∀ (m f k : Nat) (U : St), k + m = 8 → m < f → Fr [] [] [80] [] S U → (∀ j, j < k → gA U 80 (2 * j) = nI (sm (suO r O j) (nD r)) ∧ gA U 80 (2 * j + 1) = nI (pc16 (orO r O j (nD r)))) →
    ∃ W, f_X12_evenings_223 f (nI x) (nI k) U = some (nI x, sI W 34 (nI 0)) ∧ Fr [] [] [80] [] S W ∧ (∀ j, j < 8 → gA W 80 (2 * j) = nI (sm (suO r O j) (nD r)) ∧ gA W 80 (2 * j + 1) = nI (pc16 (orO r O j (nD r)))) := by
  have h16 := h.1.n16
  intro m
  induction m with
  | zero =>
    intro f k U hk hf hF hR
    obtain ⟨f, rfl⟩ : ∃ g, f = g + 1 := ⟨f - 1, by omega⟩
    have : k = 8 := by omega
    subst this
    refine ⟨U, ?_, hF, hR⟩
    rw [f_X12_evenings_223]
    simp (disch := omega) only [k_let, Option.bind_some, ↓reduceIte, eq_self, true_or, or_true, n01_0, n01_1, kb_or, kb_0T, kb_0F, vn_0, vn_1, vn_k, nl_0, nl_1, nl_2, nl_3, nl_4, nl_5, nl_6, nl_7, nl_8, nl_9, nl_10, nl_11, nl_12, nl_13, nl_14, nl_15, nl_16, nl_20, nl_21, nl_22, nl_23, nl_24, nl_25, nl_26, nl_27, nl_28, nl_29, nl_30, nl_31, nl_32, nl_40, nl_41, nl_42, nl_43, nl_45, nl_47, nl_48, nl_50, nl_57, nl_59, nl_60, nl_61, nl_62, nl_63, nl_64, nl_91, nl_93, nl_94, nl_97, nl_98, nl_100, nl_110, nl_122, nl_130, nl_144, nl_160, nl_240, nl_241, nl_255, nl_256, nl_400, nl_800, nl_900, nl_999, nl_1000, nl_1001, nl_1024, nl_1103, nl_1928, nl_4321, nl_5560, nl_12345, nl_1000000, nl_1000003, nl_252645135, nl_858993459, nl_1431655765, nl_1000000000, nI_add, pk_mul, n_sub, n_neg, n_cl, leT, leF, ltT, ltF, eqT, eqF, kbT, s_II, s_In, s_IJ, s_IA, s_IL, s_IR, s_IC, s_JI, s_JJ, s_Jn, s_JA, s_JL, s_JR, s_JC, s_AI, s_AJ, s_AA, s_An, s_AL, s_AR, s_AC, s_LI, s_LJ, s_LA, s_LL, s_Ln, s_LR, s_LC, zleT, zleF, zltT, zltF, zeqT, zeqF, nzleT, nzleF, nzltT, nzltF, nzeqT, nzeqF, znleT, znleF, znltT, znltF, zneqT, zneqF, z_add, z_sub, z_mul, z_neg, z_an, z_na, z_sn, z_ns, z_mn, z_nm, Nat.add_sub_cancel, decide_true, decide_false, and_self, e_done, e_ref1, e_ref2, e_ref3, e_ref5, e_ref6, e_tel1, e_tel2, e_tel3, e_tel5, e_tel6, e_telN, rfT_m]
  | succ m ih =>
    intro f k U hk hf hF hR
    obtain ⟨f, rfl⟩ : ∃ g, f = g + 1 := ⟨f - 1, by omega⟩
    have f1 := hF.sA (k := 80) rfl (2 * k) (nI 0)
    obtain ⟨W, w1, w2, w3, w4, w5⟩ := l_m246 (k := k) (O := O) (x := nI x) (K := f_X12_evenings_223 f) (by omega) (h.fr f1 rfl) (fun e he => by rw [f1.A (k := 79) rfl]; exact hO e he) (nD r) FU 0 (sA U 80 (2 * k) (nI 0)) (by omega) (FU_ge (by omega)) (Fr.refl _) (by rw [s_AA, u_s]; rfl) (fun j hj => rfl)
    rw [show orO r O k 0 = 0 from rfl] at w1
    obtain ⟨Z, z1, z2, z3⟩ := ih f (k + 1) W (by omega) (by omega) (f1.trans w2) (fun j hj => by
      by_cases q : j = k
      · rw [q]; exact ⟨w3, w4⟩
      · have hR' := hR j (by omega)
        rw [w5 (2 * j) (by omega), w5 (2 * j + 1) (by omega), s_AA, u_n (by omega), u_n (by omega)]
        exact hR')
    refine ⟨Z, ?_, z2, z3⟩
    rw [← z1, ← w1, f_X12_evenings_223]
    simp (disch := omega) only [k_let, Option.bind_some, ↓reduceIte, eq_self, true_or, or_true, n01_0, n01_1, kb_or, kb_0T, kb_0F, vn_0, vn_1, vn_k, nl_0, nl_1, nl_2, nl_3, nl_4, nl_5, nl_6, nl_7, nl_8, nl_9, nl_10, nl_11, nl_12, nl_13, nl_14, nl_15, nl_16, nl_20, nl_21, nl_22, nl_23, nl_24, nl_25, nl_26, nl_27, nl_28, nl_29, nl_30, nl_31, nl_32, nl_40, nl_41, nl_42, nl_43, nl_45, nl_47, nl_48, nl_50, nl_57, nl_59, nl_60, nl_61, nl_62, nl_63, nl_64, nl_91, nl_93, nl_94, nl_97, nl_98, nl_100, nl_110, nl_122, nl_130, nl_144, nl_160, nl_240, nl_241, nl_255, nl_256, nl_400, nl_800, nl_900, nl_999, nl_1000, nl_1001, nl_1024, nl_1103, nl_1928, nl_4321, nl_5560, nl_12345, nl_1000000, nl_1000003, nl_252645135, nl_858993459, nl_1431655765, nl_1000000000, nI_add, pk_mul, n_sub, n_neg, n_cl, leT, leF, ltT, ltF, eqT, eqF, kbT, s_II, s_In, s_IJ, s_IA, s_IL, s_IR, s_IC, s_JI, s_JJ, s_Jn, s_JA, s_JL, s_JR, s_JC, s_AI, s_AJ, s_AA, s_An, s_AL, s_AR, s_AC, s_LI, s_LJ, s_LA, s_LL, s_Ln, s_LR, s_LC]
