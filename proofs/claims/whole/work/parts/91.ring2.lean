/-! part 91: ring: who owes whom, on both sides -/
theorem bs_or {p q : Nat → Bool} {k : Nat} (hk : k < 8) (h : ∀ i, i < 8 → q i = (p i || decide (k = i))) : bs q 8 = bs p 8 ||| 2 ^ k := by
  refine tb_ext (m := 8) (bs_lt q 8) (or_lt (bs_lt p 8) hk) (fun i hi => ?_)
  rw [bs_tb, or_tb, bs_tb, h i hi, decide_eq_true hi, Bool.true_and, Bool.true_and]
theorem bs_co {p q : Nat → Bool} (h : ∀ i, i < 8 → q i = p i) : bs q 8 = bs p 8 := by
  refine tb_ext (m := 8) (bs_lt q 8) (bs_lt p 8) (fun i hi => ?_)
  rw [bs_tb, bs_tb, h i hi]
theorem l_m27 {r : Nat → Int32} {V : Nat → Vd} {S : St} {K : Int32 → Int32 → St → Option St} {t i : Nat} (h : Qm r V S) (ht : t < 6) (hi : i < 8) : ∀ (m f j : Nat) (U : St), j + m = 8 → m < f → Fr [] [] [71] [] S U → gA U 71 i = nI (bs (edB r V t i) j) → (∀ k, k ≠ i → gA U 71 k = gA S 71 k) →
    ∃ W, f_X12_findRing_27 K f (nI t) (nI i) (nI j) U = K (nI t) (nI (i + 1)) W ∧ Fr [] [] [71] [] S W ∧ gA W 71 i = nI (adN r V t i) ∧ (∀ k, k ≠ i → gA W 71 k = gA S 71 k) := by
  intro m
  induction m with
  | zero =>
    intro f j U hj hf hF h0 hk
    obtain ⟨f, rfl⟩ : ∃ g, f = g + 1 := ⟨f - 1, by omega⟩
    have : j = 8 := by omega
    subst this
    refine ⟨U, ?_, hF, h0, hk⟩
    rw [f_X12_findRing_27]
    simp (disch := omega) only [k_let, Option.bind_some, ↓reduceIte, eq_self, true_or, or_true, n01_0, n01_1, kb_or, kb_0T, kb_0F, vn_0, vn_1, vn_k, nl_0, nl_1, nl_2, nl_3, nl_4, nl_5, nl_6, nl_7, nl_8, nl_9, nl_10, nl_11, nl_12, nl_13, nl_14, nl_15, nl_16, nl_20, nl_21, nl_22, nl_23, nl_24, nl_25, nl_26, nl_27, nl_28, nl_29, nl_30, nl_31, nl_32, nl_40, nl_41, nl_42, nl_43, nl_45, nl_47, nl_48, nl_50, nl_57, nl_59, nl_60, nl_61, nl_62, nl_63, nl_64, nl_91, nl_93, nl_94, nl_97, nl_98, nl_100, nl_110, nl_122, nl_130, nl_144, nl_160, nl_240, nl_241, nl_255, nl_256, nl_400, nl_800, nl_900, nl_999, nl_1000, nl_1001, nl_1024, nl_1103, nl_1928, nl_4321, nl_5560, nl_12345, nl_1000000, nl_1000003, nl_252645135, nl_858993459, nl_1431655765, nl_1000000000, nI_add, pk_mul, n_sub, n_neg, n_cl, leT, leF, ltT, ltF, eqT, eqF, kbT, s_II, s_In, s_IJ, s_IA, s_IL, s_IR, s_IC, s_JI, s_JJ, s_Jn, s_JA, s_JL, s_JR, s_JC, s_AI, s_AJ, s_AA, s_An, s_AL, s_AR, s_AC, s_LI, s_LJ, s_LA, s_LL, s_Ln, s_LR, s_LC]
  | succ m ih =>
    intro f j U hj hf hF h0 hk
    obtain ⟨f, rfl⟩ : ∃ g, f = g + 1 := ⟨f - 1, by omega⟩
    have hU := h.fr hF rfl rfl rfl rfl
    have pb := e_mbt hU ht hi (show j < 8 by omega)
    have bd : btN r V t i j ≤ 144 := btF_bd h.1.1 t i j (Nat.le_refl _)
    have bl := bs_lt (edB r V t i) j
    have eb : bs (edB r V t i) (j + 1) = if edB r V t i j = true then bs (edB r V t i) j ||| 2 ^ j else bs (edB r V t i) j := rfl
    have e : f_X12_findRing_27 K (f + 1) (nI t) (nI i) (nI j) U = f_X12_findRing_27 K f (nI t) (nI i) (nI (j + 1)) (sA U 71 i (nI (bs (edB r V t i) (j + 1)))) := by
      rw [f_X12_findRing_27, eb]
      by_cases c : 0 < btN r V t i j
      · rw [if_pos (show edB r V t i j = true from decide_eq_true c)]
        simp (disch := omega) only [k_let, Option.bind_some, ↓reduceIte, eq_self, true_or, or_true, n01_0, n01_1, kb_or, kb_0T, kb_0F, vn_0, vn_1, vn_k, nl_0, nl_1, nl_2, nl_3, nl_4, nl_5, nl_6, nl_7, nl_8, nl_9, nl_10, nl_11, nl_12, nl_13, nl_14, nl_15, nl_16, nl_20, nl_21, nl_22, nl_23, nl_24, nl_25, nl_26, nl_27, nl_28, nl_29, nl_30, nl_31, nl_32, nl_40, nl_41, nl_42, nl_43, nl_45, nl_47, nl_48, nl_50, nl_57, nl_59, nl_60, nl_61, nl_62, nl_63, nl_64, nl_91, nl_93, nl_94, nl_97, nl_98, nl_100, nl_110, nl_122, nl_130, nl_144, nl_160, nl_240, nl_241, nl_255, nl_256, nl_400, nl_800, nl_900, nl_999, nl_1000, nl_1001, nl_1024, nl_1103, nl_1928, nl_4321, nl_5560, nl_12345, nl_1000000, nl_1000003, nl_252645135, nl_858993459, nl_1431655765, nl_1000000000, nI_add, pk_mul, n_sub, n_neg, n_cl, leT, leF, ltT, ltF, eqT, eqF, kbT, s_II, s_In, s_IJ, s_IA, s_IL, s_IR, s_IC, s_JI, s_JJ, s_Jn, s_JA, s_JL, s_JR, s_JC, s_AI, s_AJ, s_AA, s_An, s_AL, s_AR, s_AC, s_LI, s_LJ, s_LA, s_LL, s_Ln, s_LR, s_LC, ↓b_of pb, f_X12_findRing_57, h0, n_shl1, n_or]
      · rw [if_neg (show ¬ edB r V t i j = true from fun z => c (of_decide_eq_true z))]
        simp (disch := omega) only [k_let, Option.bind_some, ↓reduceIte, eq_self, true_or, or_true, n01_0, n01_1, kb_or, kb_0T, kb_0F, vn_0, vn_1, vn_k, nl_0, nl_1, nl_2, nl_3, nl_4, nl_5, nl_6, nl_7, nl_8, nl_9, nl_10, nl_11, nl_12, nl_13, nl_14, nl_15, nl_16, nl_20, nl_21, nl_22, nl_23, nl_24, nl_25, nl_26, nl_27, nl_28, nl_29, nl_30, nl_31, nl_32, nl_40, nl_41, nl_42, nl_43, nl_45, nl_47, nl_48, nl_50, nl_57, nl_59, nl_60, nl_61, nl_62, nl_63, nl_64, nl_91, nl_93, nl_94, nl_97, nl_98, nl_100, nl_110, nl_122, nl_130, nl_144, nl_160, nl_240, nl_241, nl_255, nl_256, nl_400, nl_800, nl_900, nl_999, nl_1000, nl_1001, nl_1024, nl_1103, nl_1928, nl_4321, nl_5560, nl_12345, nl_1000000, nl_1000003, nl_252645135, nl_858993459, nl_1431655765, nl_1000000000, nI_add, pk_mul, n_sub, n_neg, n_cl, leT, leF, ltT, ltF, eqT, eqF, kbT, s_II, s_In, s_IJ, s_IA, s_IL, s_IR, s_IC, s_JI, s_JJ, s_Jn, s_JA, s_JL, s_JR, s_JC, s_AI, s_AJ, s_AA, s_An, s_AL, s_AR, s_AC, s_LI, s_LJ, s_LA, s_LL, s_Ln, s_LR, s_LC, ↓b_of pb, f_X12_findRing_57, h0, n_or, Nat.or_zero]
    rw [e]
    refine ih f (j + 1) _ (by omega) (by omega) (hF.sA rfl _ _) (by rw [s_AA, u_s]) (fun k hk2 => ?_)
    rw [s_AA, u_n hk2]; exact hk k hk2
theorem l_m12 {r : Nat → Int32} {V : Nat → Vd} {S : St} {t : Nat} (h : Qm r V S) (ht : t < 6) : ∀ (m f i : Nat) (U : St), i + m = 8 → m < f → Fr [] [] [71] [] S U → (∀ k, k < i → gA U 71 k = nI (adN r V t k)) →
    ∃ W, f_X12_findRing_12 f (nI t) (nI i) U = f_X12_findRing_73 FU (nI 0) W ∧ Fr [] [] [71] [] S W ∧ (∀ k, k < 8 → gA W 71 k = nI (adN r V t k)) := by
  intro m
  induction m with
  | zero =>
    intro f i U hi hf hF hk
    obtain ⟨f, rfl⟩ : ∃ g, f = g + 1 := ⟨f - 1, by omega⟩
    have : i = 8 := by omega
    subst this
    refine ⟨U, ?_, hF, hk⟩
    rw [f_X12_findRing_12]
    simp (disch := omega) only [k_let, Option.bind_some, ↓reduceIte, eq_self, true_or, or_true, n01_0, n01_1, kb_or, kb_0T, kb_0F, vn_0, vn_1, vn_k, nl_0, nl_1, nl_2, nl_3, nl_4, nl_5, nl_6, nl_7, nl_8, nl_9, nl_10, nl_11, nl_12, nl_13, nl_14, nl_15, nl_16, nl_20, nl_21, nl_22, nl_23, nl_24, nl_25, nl_26, nl_27, nl_28, nl_29, nl_30, nl_31, nl_32, nl_40, nl_41, nl_42, nl_43, nl_45, nl_47, nl_48, nl_50, nl_57, nl_59, nl_60, nl_61, nl_62, nl_63, nl_64, nl_91, nl_93, nl_94, nl_97, nl_98, nl_100, nl_110, nl_122, nl_130, nl_144, nl_160, nl_240, nl_241, nl_255, nl_256, nl_400, nl_800, nl_900, nl_999, nl_1000, nl_1001, nl_1024, nl_1103, nl_1928, nl_4321, nl_5560, nl_12345, nl_1000000, nl_1000003, nl_252645135, nl_858993459, nl_1431655765, nl_1000000000, nI_add, pk_mul, n_sub, n_neg, n_cl, leT, leF, ltT, ltF, eqT, eqF, kbT, s_II, s_In, s_IJ, s_IA, s_IL, s_IR, s_IC, s_JI, s_JJ, s_Jn, s_JA, s_JL, s_JR, s_JC, s_AI, s_AJ, s_AA, s_An, s_AL, s_AR, s_AC, s_LI, s_LJ, s_LA, s_LL, s_Ln, s_LR, s_LC]
  | succ m ih =>
    intro f i U hi hf hF hk
    obtain ⟨f, rfl⟩ : ∃ g, f = g + 1 := ⟨f - 1, by omega⟩
    have f1 := hF.sA (k := 71) rfl i (nI 0)
    obtain ⟨W, w1, w2, w3, w4⟩ := l_m27 (V := V) (K := f_X12_findRing_12 f) (t := t) (i := i) (h.fr f1 rfl rfl rfl rfl) ht (by omega) 8 FU 0 (sA U 71 i (nI 0)) (by omega) (FU_ge (by omega)) (Fr.refl _) (by rw [s_AA, u_s]; rfl) (fun k _ => rfl)
    obtain ⟨Z, z1, z2, z3⟩ := ih f (i + 1) W (by omega) (by omega) (f1.trans w2) (fun k hk2 => by
      by_cases q : k = i
      · rw [q]; exact w3
      · rw [w4 k q, s_AA, u_n q]; exact hk k (by omega))
    refine ⟨Z, ?_, z2, z3⟩
    rw [← z1, ← w1, f_X12_findRing_12]
    simp (disch := omega) only [k_let, Option.bind_some, ↓reduceIte, eq_self, true_or, or_true, n01_0, n01_1, kb_or, kb_0T, kb_0F, vn_0, vn_1, vn_k, nl_0, nl_1, nl_2, nl_3, nl_4, nl_5, nl_6, nl_7, nl_8, nl_9, nl_10, nl_11, nl_12, nl_13, nl_14, nl_15, nl_16, nl_20, nl_21, nl_22, nl_23, nl_24, nl_25, nl_26, nl_27, nl_28, nl_29, nl_30, nl_31, nl_32, nl_40, nl_41, nl_42, nl_43, nl_45, nl_47, nl_48, nl_50, nl_57, nl_59, nl_60, nl_61, nl_62, nl_63, nl_64, nl_91, nl_93, nl_94, nl_97, nl_98, nl_100, nl_110, nl_122, nl_130, nl_144, nl_160, nl_240, nl_241, nl_255, nl_256, nl_400, nl_800, nl_900, nl_999, nl_1000, nl_1001, nl_1024, nl_1103, nl_1928, nl_4321, nl_5560, nl_12345, nl_1000000, nl_1000003, nl_252645135, nl_858993459, nl_1431655765, nl_1000000000, nI_add, pk_mul, n_sub, n_neg, n_cl, leT, leF, ltT, ltF, eqT, eqF, kbT, s_II, s_In, s_IJ, s_IA, s_IL, s_IR, s_IC, s_JI, s_JJ, s_Jn, s_JA, s_JL, s_JR, s_JC, s_AI, s_AJ, s_AA, s_An, s_AL, s_AR, s_AC, s_LI, s_LJ, s_LA, s_LL, s_Ln, s_LR, s_LC]
/-! the class -/
def adP (r : Nat → Int32) (V : Nat → Vd) (t d k : Nat) : Nat := bs (fun j => decide (0 < sm (btF r V t k j) d)) 8
def owF (r : Nat → Int32) (V : Nat → Vd) (t i e : Nat) : Nat := if ctB r V t e = true ∧ dOw r e = i then 1 else 0
def crF (r : Nat → Int32) (V : Nat → Vd) (t i e : Nat) : Nat := if ctB r V t e = true ∧ dCr r e = i then 1 else 0
def owP (r : Nat → Int32) (V : Nat → Vd) (t d : Nat) : Nat := bs (fun i => decide (0 < sm (owF r V t i) d)) 8
def crP (r : Nat → Int32) (V : Nat → Vd) (t d : Nat) : Nat := bs (fun i => decide (0 < sm (crF r V t i) d)) 8
theorem sm_pos {f : Nat → Nat} {d : Nat} {b : Bool} (h : b = decide (0 < f d)) : decide (0 < sm f (d + 1)) = (decide (0 < sm f d) || b) := by
  rw [h, ← Bool.decide_or]
  refine decide_eq_decide.mpr ?_
  show 0 < sm f d + f d ↔ _
  omega
theorem e_fill30 {S : St} : ∃ T, f_J7_fill_53178_a30 (nI 0) S = some T ∧ Fr [] [] [30] [] S T ∧ ∀ i, i < 8 → gA T 30 i = nI 0 := by
  have key : ∀ (m f i : Nat) (U : St), i + m = 8 → m < f → Fr [] [] [30] [] S U → (∀ j, j < i → gA U 30 j = nI 0) → ∃ T, f_J7_fill_53178_a30_5 f (nI 0) (nI i) (nI 8) U = some T ∧ Fr [] [] [30] [] S T ∧ ∀ i, i < 8 → gA T 30 i = nI 0 := by
    intro m
    induction m with
    | zero =>
      intro f i U hi hf hF hp
      obtain ⟨f, rfl⟩ : ∃ g, f = g + 1 := ⟨f - 1, by omega⟩
      have : i = 8 := by omega
      subst this
      refine ⟨U, ?_, hF, hp⟩
      rw [f_J7_fill_53178_a30_5]
      simp (disch := omega) only [k_let, Option.bind_some, ↓reduceIte, eq_self, true_or, or_true, n01_0, n01_1, kb_or, kb_0T, kb_0F, vn_0, vn_1, vn_k, nl_0, nl_1, nl_2, nl_3, nl_4, nl_5, nl_6, nl_7, nl_8, nl_9, nl_10, nl_11, nl_12, nl_13, nl_14, nl_15, nl_16, nl_20, nl_21, nl_22, nl_23, nl_24, nl_25, nl_26, nl_27, nl_28, nl_29, nl_30, nl_31, nl_32, nl_40, nl_41, nl_42, nl_43, nl_45, nl_47, nl_48, nl_50, nl_57, nl_59, nl_60, nl_61, nl_62, nl_63, nl_64, nl_91, nl_93, nl_94, nl_97, nl_98, nl_100, nl_110, nl_122, nl_130, nl_144, nl_160, nl_240, nl_241, nl_255, nl_256, nl_400, nl_800, nl_900, nl_999, nl_1000, nl_1001, nl_1024, nl_1103, nl_1928, nl_4321, nl_5560, nl_12345, nl_1000000, nl_1000003, nl_252645135, nl_858993459, nl_1431655765, nl_1000000000, nI_add, pk_mul, n_sub, n_neg, n_cl, leT, leF, ltT, ltF, eqT, eqF, kbT, s_II, s_In, s_IJ, s_IA, s_IL, s_IR, s_IC, s_JI, s_JJ, s_Jn, s_JA, s_JL, s_JR, s_JC, s_AI, s_AJ, s_AA, s_An, s_AL, s_AR, s_AC, s_LI, s_LJ, s_LA, s_LL, s_Ln, s_LR, s_LC]
    | succ m ih =>
      intro f i U hi hf hF hp
      obtain ⟨f, rfl⟩ : ∃ g, f = g + 1 := ⟨f - 1, by omega⟩
      have e : f_J7_fill_53178_a30_5 (f + 1) (nI 0) (nI i) (nI 8) U = f_J7_fill_53178_a30_5 f (nI 0) (nI (i + 1)) (nI 8) (sA U 30 i (nI 0)) := by
        rw [f_J7_fill_53178_a30_5]
        simp (disch := omega) only [k_let, Option.bind_some, ↓reduceIte, eq_self, true_or, or_true, n01_0, n01_1, kb_or, kb_0T, kb_0F, vn_0, vn_1, vn_k, nl_0, nl_1, nl_2, nl_3, nl_4, nl_5, nl_6, nl_7, nl_8, nl_9, nl_10, nl_11, nl_12, nl_13, nl_14, nl_15, nl_16, nl_20, nl_21, nl_22, nl_23, nl_24, nl_25, nl_26, nl_27, nl_28, nl_29, nl_30, nl_31, nl_32, nl_40, nl_41, nl_42, nl_43, nl_45, nl_47, nl_48, nl_50, nl_57, nl_59, nl_60, nl_61, nl_62, nl_63, nl_64, nl_91, nl_93, nl_94, nl_97, nl_98, nl_100, nl_110, nl_122, nl_130, nl_144, nl_160, nl_240, nl_241, nl_255, nl_256, nl_400, nl_800, nl_900, nl_999, nl_1000, nl_1001, nl_1024, nl_1103, nl_1928, nl_4321, nl_5560, nl_12345, nl_1000000, nl_1000003, nl_252645135, nl_858993459, nl_1431655765, nl_1000000000, nI_add, pk_mul, n_sub, n_neg, n_cl, leT, leF, ltT, ltF, eqT, eqF, kbT, s_II, s_In, s_IJ, s_IA, s_IL, s_IR, s_IC, s_JI, s_JJ, s_Jn, s_JA, s_JL, s_JR, s_JC, s_AI, s_AJ, s_AA, s_An, s_AL, s_AR, s_AC, s_LI, s_LJ, s_LA, s_LL, s_Ln, s_LR, s_LC]
      rw [e]
      refine ih f (i + 1) _ (by omega) (by omega) (hF.sA rfl _ _) (fun j hj => ?_)
      rw [s_AA, u_a]
      by_cases q : j = i
      · rw [if_pos q]
      · rw [if_neg q]; exact hp j (by omega)
  unfold f_J7_fill_53178_a30
  exact key 8 FU 0 S (by omega) (FU_ge (by decide)) (Fr.refl _) (fun j hj => absurd hj (Nat.not_lt_zero _))
theorem l_c27 {r : Nat → Int32} {V : Nat → Vd} {S : St} {t : Nat} (h : Qc r V S) (ht : t < 6) (h19 : gI S 19 = nI t) : ∀ (m f d : Nat) (U : St), d + m = nD r → m < f → Fr [] [] [30] [] S U → (∀ k, k < 8 → gA U 30 k = nI (adP r V t d k)) →
    ∃ W, f_X8_find_27 f (nI (owP r V t d)) (nI (crP r V t d)) (nI d) U = f_X8_find_125 (nI (owP r V t (nD r))) (nI (crP r V t (nD r))) W ∧ Fr [] [] [30] [] S W ∧ (∀ k, k < 8 → gA W 30 k = nI (adN r V t k)) := by
  have h16 := h.1.1.n16
  intro m
  induction m with
  | zero =>
    intro f d U hd hf hF hR
    obtain ⟨f, rfl⟩ : ∃ g, f = g + 1 := ⟨f - 1, by omega⟩
    have : d = nD r := by omega
    subst this
    have h1 := (h.fr hF rfl rfl rfl rfl rfl).1.I1
    refine ⟨U, ?_, hF, hR⟩
    rw [f_X8_find_27]
    simp (disch := omega) only [k_let, Option.bind_some, ↓reduceIte, eq_self, true_or, or_true, n01_0, n01_1, kb_or, kb_0T, kb_0F, vn_0, vn_1, vn_k, nl_0, nl_1, nl_2, nl_3, nl_4, nl_5, nl_6, nl_7, nl_8, nl_9, nl_10, nl_11, nl_12, nl_13, nl_14, nl_15, nl_16, nl_20, nl_21, nl_22, nl_23, nl_24, nl_25, nl_26, nl_27, nl_28, nl_29, nl_30, nl_31, nl_32, nl_40, nl_41, nl_42, nl_43, nl_45, nl_47, nl_48, nl_50, nl_57, nl_59, nl_60, nl_61, nl_62, nl_63, nl_64, nl_91, nl_93, nl_94, nl_97, nl_98, nl_100, nl_110, nl_122, nl_130, nl_144, nl_160, nl_240, nl_241, nl_255, nl_256, nl_400, nl_800, nl_900, nl_999, nl_1000, nl_1001, nl_1024, nl_1103, nl_1928, nl_4321, nl_5560, nl_12345, nl_1000000, nl_1000003, nl_252645135, nl_858993459, nl_1431655765, nl_1000000000, nI_add, pk_mul, n_sub, n_neg, n_cl, leT, leF, ltT, ltF, eqT, eqF, kbT, s_II, s_In, s_IJ, s_IA, s_IL, s_IR, s_IC, s_JI, s_JJ, s_Jn, s_JA, s_JL, s_JR, s_JC, s_AI, s_AJ, s_AA, s_An, s_AL, s_AR, s_AC, s_LI, s_LJ, s_LA, s_LL, s_Ln, s_LR, s_LC, h1]
  | succ m ih =>
    intro f d U hd hf hF hR
    obtain ⟨f, rfl⟩ : ∃ g, f = g + 1 := ⟨f - 1, by omega⟩
    have hdn : d < nD r := by omega
    have hU := h.fr hF rfl rfl rfl rfl rfl
    have h1 := hU.1.I1
    have pc := e_ccounts hU ht ((hF.I (k := 19) rfl).trans h19) hdn
    obtain ⟨q1, q2, q3, q4, q5⟩ := hU.1.C hdn
    have o8 := (h.1.1.ow hdn).2
    have c8 := (h.1.1.cr hdn).2
    have a8 := (h.1.1.ha hdn).2.2
    have b1 := bs_lt (fun i => decide (0 < sm (owF r V t i) d)) 8
    have b2 := bs_lt (fun i => decide (0 < sm (crF r V t i) d)) 8
    have b3 := fun k => bs_lt (fun j => decide (0 < sm (btF r V t k j) d)) 8
    by_cases c : ctB r V t d = true
    · rw [c, kB_t] at pc
      have g0 := e_dancer (nI (dOw r d)) U
      rw [decide_eq_true (show 0 ≤ (nI (dOw r d)).toInt ∧ (nI (dOw r d)).toInt ≤ 7 by rw [n_ti (by omega)]; omega), kB_t] at g0
      have e1 : owP r V t (d + 1) = owP r V t d ||| 2 ^ dOw r d := bs_or o8 (fun i _ => sm_pos (by
        unfold owF
        by_cases q : dOw r d = i
        · rw [if_pos ⟨c, q⟩, decide_eq_true q]; rfl
        · rw [if_neg (fun z => q z.2), decide_eq_false q]; rfl))
      have e2 : crP r V t (d + 1) = crP r V t d ||| 2 ^ dCr r d := bs_or c8 (fun i _ => sm_pos (by
        unfold crF
        by_cases q : dCr r d = i
        · rw [if_pos ⟨c, q⟩, decide_eq_true q]; rfl
        · rw [if_neg (fun z => q z.2), decide_eq_false q]; rfl))
      have e3 : adP r V t (d + 1) (dOw r d) = adP r V t d (dOw r d) ||| 2 ^ dCr r d := bs_or c8 (fun i _ => sm_pos (by
        unfold btF
        by_cases q : dCr r d = i
        · rw [if_pos ⟨c, rfl, q⟩, decide_eq_true q, decide_eq_true a8]
        · rw [if_neg (fun z => q z.2.2), decide_eq_false q]; rfl))
      have e4 : ∀ k, k ≠ dOw r d → adP r V t (d + 1) k = adP r V t d k := fun k hk => bs_co (fun i _ => by
        refine (sm_pos (b := false) ?_).trans (Bool.or_false _)
        unfold btF
        rw [if_neg (fun z => hk z.2.1.symm)]; rfl)
      have e : f_X8_find_27 (f + 1) (nI (owP r V t d)) (nI (crP r V t d)) (nI d) U = f_X8_find_27 f (nI (owP r V t (d + 1))) (nI (crP r V t (d + 1))) (nI (d + 1)) (sA U 30 (dOw r d) (nI (adP r V t (d + 1) (dOw r d)))) := by
        have r0 := hR (dOw r d) o8
        rw [f_X8_find_27, e1, e2, e3]
        simp (disch := omega) only [k_let, Option.bind_some, ↓reduceIte, eq_self, true_or, or_true, n01_0, n01_1, kb_or, kb_0T, kb_0F, vn_0, vn_1, vn_k, nl_0, nl_1, nl_2, nl_3, nl_4, nl_5, nl_6, nl_7, nl_8, nl_9, nl_10, nl_11, nl_12, nl_13, nl_14, nl_15, nl_16, nl_20, nl_21, nl_22, nl_23, nl_24, nl_25, nl_26, nl_27, nl_28, nl_29, nl_30, nl_31, nl_32, nl_40, nl_41, nl_42, nl_43, nl_45, nl_47, nl_48, nl_50, nl_57, nl_59, nl_60, nl_61, nl_62, nl_63, nl_64, nl_91, nl_93, nl_94, nl_97, nl_98, nl_100, nl_110, nl_122, nl_130, nl_144, nl_160, nl_240, nl_241, nl_255, nl_256, nl_400, nl_800, nl_900, nl_999, nl_1000, nl_1001, nl_1024, nl_1103, nl_1928, nl_4321, nl_5560, nl_12345, nl_1000000, nl_1000003, nl_252645135, nl_858993459, nl_1431655765, nl_1000000000, nI_add, pk_mul, n_sub, n_neg, n_cl, leT, leF, ltT, ltF, eqT, eqF, kbT, s_II, s_In, s_IJ, s_IA, s_IL, s_IR, s_IC, s_JI, s_JJ, s_Jn, s_JA, s_JL, s_JR, s_JC, s_AI, s_AJ, s_AA, s_An, s_AL, s_AR, s_AC, s_LI, s_LJ, s_LA, s_LL, s_Ln, s_LR, s_LC, h1, ↓b_of pc, q1, q2, ↓b_of g0, r0, n_shl1, n_or, f_X8_find_119]
      rw [e]
      refine ih f (d + 1) _ (by omega) (by omega) (hF.sA rfl _ _) (fun k hk => ?_)
      rw [s_AA]
      by_cases q : k = dOw r d
      · rw [q, u_s]
      · rw [u_n q, e4 k q]; exact hR k hk
    · have nc : ∀ {P : Prop}, ¬ (ctB r V t d = true ∧ P) := fun z => c z.1
      have e1 : owP r V t (d + 1) = owP r V t d := bs_co (fun i _ => (sm_pos (b := false) (by unfold owF; rw [if_neg nc]; rfl)).trans (Bool.or_false _))
      have e2 : crP r V t (d + 1) = crP r V t d := bs_co (fun i _ => (sm_pos (b := false) (by unfold crF; rw [if_neg nc]; rfl)).trans (Bool.or_false _))
      have e4 : ∀ k, adP r V t (d + 1) k = adP r V t d k := fun k => bs_co (fun i _ => (sm_pos (b := false) (by unfold btF; rw [if_neg nc]; rfl)).trans (Bool.or_false _))
      rw [Bool.not_eq_true] at c
      rw [c, kB_f] at pc
      have e : f_X8_find_27 (f + 1) (nI (owP r V t d)) (nI (crP r V t d)) (nI d) U = f_X8_find_27 f (nI (owP r V t (d + 1))) (nI (crP r V t (d + 1))) (nI (d + 1)) U := by
        rw [f_X8_find_27, e1, e2]
        simp (disch := omega) only [k_let, Option.bind_some, ↓reduceIte, eq_self, true_or, or_true, n01_0, n01_1, kb_or, kb_0T, kb_0F, vn_0, vn_1, vn_k, nl_0, nl_1, nl_2, nl_3, nl_4, nl_5, nl_6, nl_7, nl_8, nl_9, nl_10, nl_11, nl_12, nl_13, nl_14, nl_15, nl_16, nl_20, nl_21, nl_22, nl_23, nl_24, nl_25, nl_26, nl_27, nl_28, nl_29, nl_30, nl_31, nl_32, nl_40, nl_41, nl_42, nl_43, nl_45, nl_47, nl_48, nl_50, nl_57, nl_59, nl_60, nl_61, nl_62, nl_63, nl_64, nl_91, nl_93, nl_94, nl_97, nl_98, nl_100, nl_110, nl_122, nl_130, nl_144, nl_160, nl_240, nl_241, nl_255, nl_256, nl_400, nl_800, nl_900, nl_999, nl_1000, nl_1001, nl_1024, nl_1103, nl_1928, nl_4321, nl_5560, nl_12345, nl_1000000, nl_1000003, nl_252645135, nl_858993459, nl_1431655765, nl_1000000000, nI_add, pk_mul, n_sub, n_neg, n_cl, leT, leF, ltT, ltF, eqT, eqF, kbT, s_II, s_In, s_IJ, s_IA, s_IL, s_IR, s_IC, s_JI, s_JJ, s_Jn, s_JA, s_JL, s_JR, s_JC, s_AI, s_AJ, s_AA, s_An, s_AL, s_AR, s_AC, s_LI, s_LJ, s_LA, s_LL, s_Ln, s_LR, s_LC, h1, ↓b_of pc, f_X8_find_119]
      rw [e]
      exact ih f (d + 1) _ (by omega) (by omega) hF (fun k hk => by rw [e4 k]; exact hR k hk)
