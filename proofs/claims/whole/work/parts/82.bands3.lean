/-! part 82: the reference's bands, the pair -/
theorem l_b155 {r : Nat → Int32} {k what M A L its s : Nat} {U : St} (h : Ir r U) (hs : s < 65536) (k134 : Int32 → Int32 → Int32 → Int32 → Int32 → Int32 → St → Option (Int32 × St)) : ∀ (m f d : Nat), d + m = nD r → m < f → f_X12_bands_155 k134 f (nI what) (nI M) (nI A) (nI L) (nI its) (nI s) (nI (wtF r s d)) (nI d) U = f_X12_bands_155 k134 (f - m) (nI what) (nI M) (nI A) (nI L) (nI its) (nI s) (nI (wtF r s (nD r))) (nI (nD r)) U := by
  have h16 := h.1.n16
  intro m
  induction m with
  | zero =>
    intro f d hd hf
    have : d = nD r := by omega
    rw [this]; rfl
  | succ m ih =>
    intro f d hd hf
    obtain ⟨f, rfl⟩ : ∃ g, f = g + 1 := ⟨f - 1, by omega⟩
    have hdn : d < nD r := by omega
    have b1 := e_is (s := s) (k := d) (by omega) (by omega) U
    have p3 : f_X12_ofDebt (nI d) (3 : Int32) U = some (nI (dHa r d), U) := e_m_ha h hdn
    rw [show f + 1 - (m + 1) = f - m by omega, ← ih f (d + 1) (by omega) (by omega), f_X12_bands_155]
    have es : wtF r s (d + 1) = wtF r s d + (if s.testBit d = true then tkF r d else 0) := rfl
    cases c : s.testBit d with
    | true =>
      rw [c, kB_t] at b1
      rw [es, c, if_pos rfl]
      unfold tkF
      simp (disch := omega) only [k_let, Option.bind_some, ↓reduceIte, eq_self, true_or, or_true, n01_0, n01_1, kb_or, kb_0T, kb_0F, vn_0, vn_1, vn_k, nl_0, nl_1, nl_2, nl_3, nl_4, nl_5, nl_6, nl_7, nl_8, nl_9, nl_10, nl_11, nl_12, nl_13, nl_14, nl_15, nl_16, nl_20, nl_21, nl_22, nl_23, nl_24, nl_25, nl_26, nl_27, nl_28, nl_29, nl_30, nl_31, nl_32, nl_40, nl_41, nl_42, nl_43, nl_45, nl_47, nl_48, nl_50, nl_57, nl_59, nl_60, nl_61, nl_62, nl_63, nl_64, nl_91, nl_93, nl_94, nl_97, nl_98, nl_100, nl_110, nl_122, nl_130, nl_144, nl_160, nl_240, nl_241, nl_255, nl_256, nl_400, nl_800, nl_900, nl_999, nl_1000, nl_1001, nl_1024, nl_1103, nl_1928, nl_4321, nl_5560, nl_12345, nl_1000000, nl_1000003, nl_252645135, nl_858993459, nl_1431655765, nl_1000000000, leT, leF, ltT, ltF, eqT, eqF, kbT, nI_add, pk_mul, ↓b_of (e_m_n h), ↓b_of b1, ↓b_of p3, ↓b_of (e_m_ln h hdn), f_X12_bands_194]
    | false =>
      rw [c, kB_f] at b1
      rw [es, c, if_neg (by decide), Nat.add_zero]
      simp (disch := omega) only [k_let, Option.bind_some, ↓reduceIte, eq_self, true_or, or_true, n01_0, n01_1, kb_or, kb_0T, kb_0F, vn_0, vn_1, vn_k, nl_0, nl_1, nl_2, nl_3, nl_4, nl_5, nl_6, nl_7, nl_8, nl_9, nl_10, nl_11, nl_12, nl_13, nl_14, nl_15, nl_16, nl_20, nl_21, nl_22, nl_23, nl_24, nl_25, nl_26, nl_27, nl_28, nl_29, nl_30, nl_31, nl_32, nl_40, nl_41, nl_42, nl_43, nl_45, nl_47, nl_48, nl_50, nl_57, nl_59, nl_60, nl_61, nl_62, nl_63, nl_64, nl_91, nl_93, nl_94, nl_97, nl_98, nl_100, nl_110, nl_122, nl_130, nl_144, nl_160, nl_240, nl_241, nl_255, nl_256, nl_400, nl_800, nl_900, nl_999, nl_1000, nl_1001, nl_1024, nl_1103, nl_1928, nl_4321, nl_5560, nl_12345, nl_1000000, nl_1000003, nl_252645135, nl_858993459, nl_1431655765, nl_1000000000, leT, leF, ltT, ltF, eqT, eqF, kbT, nI_add, ↓b_of (e_m_n h), ↓b_of b1, f_X12_bands_194, Nat.add_zero]
theorem l_b36 {r : Nat → Int32} {V : Nat → Vd} {k what : Nat} {U : St} (h : Qm r V U) (hk : k < 8) : ∀ (m f d : Nat), d + m = nD r → m < f → f_X12_bands_36 f (nI k) (nI what) (nI (hoM r V k d)) (nI (hoA r V k d)) (nI d) U = f_X12_bands_134 FU (nI what) (nI (hoM r V k (nD r))) (nI (hoA r V k (nD r))) (nI 1000000) (nI 0) (nI 0) U := by
  have h16 := h.1.1.n16
  intro m
  induction m with
  | zero =>
    intro f d hd hf
    obtain ⟨f, rfl⟩ : ∃ g, f = g + 1 := ⟨f - 1, by omega⟩
    have : d = nD r := by omega
    subst this
    rw [f_X12_bands_36]
    simp (disch := omega) only [k_let, Option.bind_some, ↓reduceIte, eq_self, true_or, or_true, n01_0, n01_1, kb_or, kb_0T, kb_0F, vn_0, vn_1, vn_k, nl_0, nl_1, nl_2, nl_3, nl_4, nl_5, nl_6, nl_7, nl_8, nl_9, nl_10, nl_11, nl_12, nl_13, nl_14, nl_15, nl_16, nl_20, nl_21, nl_22, nl_23, nl_24, nl_25, nl_26, nl_27, nl_28, nl_29, nl_30, nl_31, nl_32, nl_40, nl_41, nl_42, nl_43, nl_45, nl_47, nl_48, nl_50, nl_57, nl_59, nl_60, nl_61, nl_62, nl_63, nl_64, nl_91, nl_93, nl_94, nl_97, nl_98, nl_100, nl_110, nl_122, nl_130, nl_144, nl_160, nl_240, nl_241, nl_255, nl_256, nl_400, nl_800, nl_900, nl_999, nl_1000, nl_1001, nl_1024, nl_1103, nl_1928, nl_4321, nl_5560, nl_12345, nl_1000000, nl_1000003, nl_252645135, nl_858993459, nl_1431655765, nl_1000000000, nI_add, pk_mul, n_sub, n_neg, n_cl, leT, leF, ltT, ltF, eqT, eqF, kbT, s_II, s_In, s_IJ, s_IA, s_IL, s_IR, s_IC, s_JI, s_JJ, s_Jn, s_JA, s_JL, s_JR, s_JC, s_AI, s_AJ, s_AA, s_An, s_AL, s_AR, s_AC, s_LI, s_LJ, s_LA, s_LL, s_Ln, s_LR, s_LC, ↓b_of (e_m_n h.1)]
  | succ m ih =>
    intro f d hd hf
    obtain ⟨f, rfl⟩ : ∃ g, f = g + 1 := ⟨f - 1, by omega⟩
    have hdn : d < nD r := by omega
    obtain ⟨j1, j2, j3⟩ := h.2.1 d hdn
    have c8 := (h.1.1.cr hdn).2
    have p1 : f_X12_ofDebt (nI d) (1 : Int32) U = some (nI (dCr r d), U) := e_m_cr h.1 hdn
    have p3 : f_X12_ofDebt (nI d) (3 : Int32) U = some (nI (dHa r d), U) := e_m_ha h.1 hdn
    rw [← ih f (d + 1) (by omega) (by omega), f_X12_bands_36]
    by_cases c : hoB r V k d = true
    · have eA : hoA r V k (d + 1) = hoA r V k d + tkF r d := by
        show hoA r V k d + (if hoB r V k d = true then tkF r d else 0) = _
        rw [if_pos c]
      have eM : hoM r V k (d + 1) = hoM r V k d ||| 2 ^ d := if_pos c
      have c' := c
      unfold hoB at c'
      rw [Bool.and_eq_true, decide_eq_true_eq, Bool.not_eq_true'] at c'
      rw [c'.2] at j2
      have cc := c'.1
      rw [eA, eM]
      unfold tkF
      simp (disch := omega) only [k_let, Option.bind_some, ↓reduceIte, eq_self, true_or, or_true, n01_0, n01_1, kb_or, kb_0T, kb_0F, vn_0, vn_1, vn_k, nl_0, nl_1, nl_2, nl_3, nl_4, nl_5, nl_6, nl_7, nl_8, nl_9, nl_10, nl_11, nl_12, nl_13, nl_14, nl_15, nl_16, nl_20, nl_21, nl_22, nl_23, nl_24, nl_25, nl_26, nl_27, nl_28, nl_29, nl_30, nl_31, nl_32, nl_40, nl_41, nl_42, nl_43, nl_45, nl_47, nl_48, nl_50, nl_57, nl_59, nl_60, nl_61, nl_62, nl_63, nl_64, nl_91, nl_93, nl_94, nl_97, nl_98, nl_100, nl_110, nl_122, nl_130, nl_144, nl_160, nl_240, nl_241, nl_255, nl_256, nl_400, nl_800, nl_900, nl_999, nl_1000, nl_1001, nl_1024, nl_1103, nl_1928, nl_4321, nl_5560, nl_12345, nl_1000000, nl_1000003, nl_252645135, nl_858993459, nl_1431655765, nl_1000000000, leT, leF, ltT, ltF, eqT, eqF, kbT, n_cl, nI_add, pk_mul, n_shl1, n_or, ↓b_of (e_m_n h.1), ↓b_of p1, ↓b_of p3, ↓b_of (e_m_ln h.1 hdn), j2, kB_f, f_X12_bands_71, f_X12_bands_87, f_X12_bands_114]
    · have eA : hoA r V k (d + 1) = hoA r V k d := by
        show hoA r V k d + (if hoB r V k d = true then tkF r d else 0) = _
        rw [if_neg c]; rfl
      have eM : hoM r V k (d + 1) = hoM r V k d := if_neg c
      have c' := c
      unfold hoB at c'
      rw [Bool.and_eq_true, decide_eq_true_eq, Bool.not_eq_true'] at c'
      rw [eA, eM]
      by_cases ct : dCr r d = k
      · have : (V d).2.1 = true := by
          cases z : (V d).2.1 with
          | true => rfl
          | false => exact absurd ⟨ct, z⟩ c'
        rw [this] at j2
        simp (disch := omega) only [k_let, Option.bind_some, ↓reduceIte, eq_self, true_or, or_true, n01_0, n01_1, kb_or, kb_0T, kb_0F, vn_0, vn_1, vn_k, nl_0, nl_1, nl_2, nl_3, nl_4, nl_5, nl_6, nl_7, nl_8, nl_9, nl_10, nl_11, nl_12, nl_13, nl_14, nl_15, nl_16, nl_20, nl_21, nl_22, nl_23, nl_24, nl_25, nl_26, nl_27, nl_28, nl_29, nl_30, nl_31, nl_32, nl_40, nl_41, nl_42, nl_43, nl_45, nl_47, nl_48, nl_50, nl_57, nl_59, nl_60, nl_61, nl_62, nl_63, nl_64, nl_91, nl_93, nl_94, nl_97, nl_98, nl_100, nl_110, nl_122, nl_130, nl_144, nl_160, nl_240, nl_241, nl_255, nl_256, nl_400, nl_800, nl_900, nl_999, nl_1000, nl_1001, nl_1024, nl_1103, nl_1928, nl_4321, nl_5560, nl_12345, nl_1000000, nl_1000003, nl_252645135, nl_858993459, nl_1431655765, nl_1000000000, leT, leF, ltT, ltF, eqT, eqF, kbT, n_cl, nI_add, n_or, Nat.or_zero, Nat.add_zero, ↓b_of (e_m_n h.1), ↓b_of p1, j2, kB_t, f_X12_bands_70, f_X12_bands_71, f_X12_bands_87, f_X12_bands_114]
      · simp (disch := omega) only [k_let, Option.bind_some, ↓reduceIte, eq_self, true_or, or_true, n01_0, n01_1, kb_or, kb_0T, kb_0F, vn_0, vn_1, vn_k, nl_0, nl_1, nl_2, nl_3, nl_4, nl_5, nl_6, nl_7, nl_8, nl_9, nl_10, nl_11, nl_12, nl_13, nl_14, nl_15, nl_16, nl_20, nl_21, nl_22, nl_23, nl_24, nl_25, nl_26, nl_27, nl_28, nl_29, nl_30, nl_31, nl_32, nl_40, nl_41, nl_42, nl_43, nl_45, nl_47, nl_48, nl_50, nl_57, nl_59, nl_60, nl_61, nl_62, nl_63, nl_64, nl_91, nl_93, nl_94, nl_97, nl_98, nl_100, nl_110, nl_122, nl_130, nl_144, nl_160, nl_240, nl_241, nl_255, nl_256, nl_400, nl_800, nl_900, nl_999, nl_1000, nl_1001, nl_1024, nl_1103, nl_1928, nl_4321, nl_5560, nl_12345, nl_1000000, nl_1000003, nl_252645135, nl_858993459, nl_1431655765, nl_1000000000, leT, leF, ltT, ltF, eqT, eqF, kbT, n_cl, nI_add, n_or, Nat.or_zero, Nat.add_zero, ↓b_of (e_m_n h.1), ↓b_of p1, f_X12_bands_70, f_X12_bands_71, f_X12_bands_87, f_X12_bands_114]
/-- the best among the sets below s -/
def BsB (r : Nat → Int32) (V : Nat → Vd) (k s L f : Nat) : Prop :=
  (f &&& hoM r V k (nD r) = f ∧ L = lgF (hoA r V k (nD r)) (wtF r f (nD r))) ∧ ∀ s', s' &&& hoM r V k (nD r) = s' → s' < s → L < lgF (hoA r V k (nD r)) (wtF r s' (nD r)) ∨ (L = lgF (hoA r V k (nD r)) (wtF r s' (nD r)) ∧ f ≤ s')
theorem l_b134 {r : Nat → Int32} {V : Nat → Vd} {k what : Nat} {U : St} (h : Qm r V U) (hw : what < 2) : ∀ (m g s L f : Nat), s + m = hoM r V k (nD r) + 1 → m < g → ((s = 0 ∧ L = 1000000 ∧ f = 0) ∨ (f < s ∧ BsB r V k s L f)) → ∃ L' f', BestB r V k L' f' ∧ f_X12_bands_134 g (nI what) (nI (hoM r V k (nD r))) (nI (hoA r V k (nD r))) (nI L) (nI f) (nI s) U = some (if what = 0 then nI L' else nI f', U) := by
  have w := h.1.1
  have h16 := w.n16
  have hAb := hoA_bd (V := V) w k (Nat.le_refl (nD r))
  have hM : hoM r V k (nD r) < 65536 := Nat.lt_of_lt_of_le (hoM_lt r V k (nD r)) (Nat.pow_le_pow_right (n := 2) (j := 16) (by decide) h16)
  intro m
  induction m with
  | zero =>
    intro g s L f hs hg hB
    obtain ⟨g, rfl⟩ : ∃ j, g = j + 1 := ⟨g - 1, by omega⟩
    rcases hB with ⟨z, -, -⟩ | ⟨-, hB⟩
    · omega
    · refine ⟨L, f, ⟨hB.1, fun s' hs' => hB.2 s' hs' (by
        have : s' &&& hoM r V k (nD r) ≤ hoM r V k (nD r) := Nat.and_le_right
        omega)⟩, ?_⟩
      rw [f_X12_bands_134, f_X12_bands_274]
      by_cases c : what = 0
      · rw [if_pos c]
        simp (disch := omega) only [k_let, Option.bind_some, ↓reduceIte, eq_self, true_or, or_true, n01_0, n01_1, kb_or, kb_0T, kb_0F, vn_0, vn_1, vn_k, nl_0, nl_1, nl_2, nl_3, nl_4, nl_5, nl_6, nl_7, nl_8, nl_9, nl_10, nl_11, nl_12, nl_13, nl_14, nl_15, nl_16, nl_20, nl_21, nl_22, nl_23, nl_24, nl_25, nl_26, nl_27, nl_28, nl_29, nl_30, nl_31, nl_32, nl_40, nl_41, nl_42, nl_43, nl_45, nl_47, nl_48, nl_50, nl_57, nl_59, nl_60, nl_61, nl_62, nl_63, nl_64, nl_91, nl_93, nl_94, nl_97, nl_98, nl_100, nl_110, nl_122, nl_130, nl_144, nl_160, nl_240, nl_241, nl_255, nl_256, nl_400, nl_800, nl_900, nl_999, nl_1000, nl_1001, nl_1024, nl_1103, nl_1928, nl_4321, nl_5560, nl_12345, nl_1000000, nl_1000003, nl_252645135, nl_858993459, nl_1431655765, nl_1000000000, nI_add, pk_mul, n_sub, n_neg, n_cl, leT, leF, ltT, ltF, eqT, eqF, kbT, s_II, s_In, s_IJ, s_IA, s_IL, s_IR, s_IC, s_JI, s_JJ, s_Jn, s_JA, s_JL, s_JR, s_JC, s_AI, s_AJ, s_AA, s_An, s_AL, s_AR, s_AC, s_LI, s_LJ, s_LA, s_LL, s_Ln, s_LR, s_LC, f_X12_bands_274]
      · rw [if_neg c]
        simp (disch := omega) only [k_let, Option.bind_some, ↓reduceIte, eq_self, true_or, or_true, n01_0, n01_1, kb_or, kb_0T, kb_0F, vn_0, vn_1, vn_k, nl_0, nl_1, nl_2, nl_3, nl_4, nl_5, nl_6, nl_7, nl_8, nl_9, nl_10, nl_11, nl_12, nl_13, nl_14, nl_15, nl_16, nl_20, nl_21, nl_22, nl_23, nl_24, nl_25, nl_26, nl_27, nl_28, nl_29, nl_30, nl_31, nl_32, nl_40, nl_41, nl_42, nl_43, nl_45, nl_47, nl_48, nl_50, nl_57, nl_59, nl_60, nl_61, nl_62, nl_63, nl_64, nl_91, nl_93, nl_94, nl_97, nl_98, nl_100, nl_110, nl_122, nl_130, nl_144, nl_160, nl_240, nl_241, nl_255, nl_256, nl_400, nl_800, nl_900, nl_999, nl_1000, nl_1001, nl_1024, nl_1103, nl_1928, nl_4321, nl_5560, nl_12345, nl_1000000, nl_1000003, nl_252645135, nl_858993459, nl_1431655765, nl_1000000000, nI_add, pk_mul, n_sub, n_neg, n_cl, leT, leF, ltT, ltF, eqT, eqF, kbT, s_II, s_In, s_IJ, s_IA, s_IL, s_IR, s_IC, s_JI, s_JJ, s_Jn, s_JA, s_JL, s_JR, s_JC, s_AI, s_AJ, s_AA, s_An, s_AL, s_AR, s_AC, s_LI, s_LJ, s_LA, s_LL, s_Ln, s_LR, s_LC, f_X12_bands_274]
  | succ m ih =>
    intro g s L f hs hg hB
    obtain ⟨g, rfl⟩ : ∃ j, g = j + 1 := ⟨g - 1, by omega⟩
    have ean : nI s &&& (nI (hoM r V k (nD r)) ^^^ iZ (-((1 : Nat) : Int))) = nI (an s (hoM r V k (nD r))) := n_an (by omega)
    have hle := an_le s (hoM r V k (nD r))
    by_cases c : s &&& hoM r V k (nD r) = s
    · have ea := an_0.mpr c
      have hwt := wt_le c
      have hlgb : lgF (hoA r V k (nD r)) (wtF r s (nD r)) ≤ 4320 := by unfold lgF; omega
      obtain ⟨q, hq⟩ : ∃ q, FU - nD r = q + 1 := ⟨FU - nD r - 1, by have := FU_ge (m := 100) (by decide); omega⟩
      have hLb : L ≤ 1000000 := by
        rcases hB with ⟨-, z, -⟩ | ⟨-, hB⟩
        · omega
        · have := hB.1.2
          have := wt_le hB.1.1
          unfold lgF at this
          unfold lgF at *
          omega
      generalize hl : lgF (hoA r V k (nD r)) (wtF r s (nD r)) = lg at *
      have l155 := l_b155 (k := k) (what := what) (M := hoM r V k (nD r)) (A := hoA r V k (nD r)) (L := L) (its := f) h.1 (show s < 65536 by omega) (f_X12_bands_134 g) (nD r) FU 0 (by omega) (FU_ge (by omega))
      rw [hq, show wtF r s 0 = 0 from rfl] at l155
      have step : f_X12_bands_134 (g + 1) (nI what) (nI (hoM r V k (nD r))) (nI (hoA r V k (nD r))) (nI L) (nI f) (nI s) U = f_X12_bands_134 g (nI what) (nI (hoM r V k (nD r))) (nI (hoA r V k (nD r))) (nI (if L ≤ lg then L else lg)) (nI (if L ≤ lg then f else s)) (nI (s + 1)) U := by
        rw [f_X12_bands_134]
        simp (disch := omega) only [k_let, Option.bind_some, ↓reduceIte, eq_self, true_or, or_true, n01_0, n01_1, kb_or, kb_0T, kb_0F, vn_0, vn_1, vn_k, nl_0, nl_1, nl_2, nl_3, nl_4, nl_5, nl_6, nl_7, nl_8, nl_9, nl_10, nl_11, nl_12, nl_13, nl_14, nl_15, nl_16, nl_20, nl_21, nl_22, nl_23, nl_24, nl_25, nl_26, nl_27, nl_28, nl_29, nl_30, nl_31, nl_32, nl_40, nl_41, nl_42, nl_43, nl_45, nl_47, nl_48, nl_50, nl_57, nl_59, nl_60, nl_61, nl_62, nl_63, nl_64, nl_91, nl_93, nl_94, nl_97, nl_98, nl_100, nl_110, nl_122, nl_130, nl_144, nl_160, nl_240, nl_241, nl_255, nl_256, nl_400, nl_800, nl_900, nl_999, nl_1000, nl_1001, nl_1024, nl_1103, nl_1928, nl_4321, nl_5560, nl_12345, nl_1000000, nl_1000003, nl_252645135, nl_858993459, nl_1431655765, nl_1000000000, nI_add, pk_mul, n_sub, n_neg, n_cl, leT, leF, ltT, ltF, eqT, eqF, kbT, s_II, s_In, s_IJ, s_IA, s_IL, s_IR, s_IC, s_JI, s_JJ, s_Jn, s_JA, s_JL, s_JR, s_JC, s_AI, s_AJ, s_AA, s_An, s_AL, s_AR, s_AC, s_LI, s_LJ, s_LA, s_LL, s_Ln, s_LR, s_LC, zleT, zleF, zltT, zltF, zeqT, zeqF, nzleT, nzleF, nzltT, nzltF, nzeqT, nzeqF, znleT, znleF, znltT, znltF, zneqT, zneqF, z_add, z_sub, z_mul, z_neg, z_an, z_na, z_sn, z_ns, z_mn, z_nm, ean, ea]
        rw [l155, f_X12_bands_155]
        have e223 : (if nI (wtF r s (nD r)) ≤ nI (hoA r V k (nD r) - wtF r s (nD r)) then f_X12_bands_223 (f_X12_bands_134 g) (nI what) (nI (hoM r V k (nD r))) (nI (hoA r V k (nD r))) (nI L) (nI f) (nI s) (nI (hoA r V k (nD r) - wtF r s (nD r))) U else f_X12_bands_223 (f_X12_bands_134 g) (nI what) (nI (hoM r V k (nD r))) (nI (hoA r V k (nD r))) (nI L) (nI f) (nI s) (nI (wtF r s (nD r))) U) = f_X12_bands_223 (f_X12_bands_134 g) (nI what) (nI (hoM r V k (nD r))) (nI (hoA r V k (nD r))) (nI L) (nI f) (nI s) (nI lg) U := by
          unfold lgF at hl
          by_cases z : wtF r s (nD r) ≤ hoA r V k (nD r) - wtF r s (nD r)
          · have el : hoA r V k (nD r) - wtF r s (nD r) = lg := by omega
            rw [el] at z ⊢
            simp (disch := omega) only [leT, leF, ltT, ltF, eqT, eqF, kbT, ↓reduceIte]
          · have el : wtF r s (nD r) = lg := by omega
            rw [el] at z ⊢
            simp (disch := omega) only [leT, leF, ltT, ltF, eqT, eqF, kbT, ↓reduceIte]
        have n1 : nI (hoA r V k (nD r)) - nI (wtF r s (nD r)) = nI (hoA r V k (nD r) - wtF r s (nD r)) := n_sub hwt
        simp (disch := omega) only [k_let, Option.bind_some, ↓reduceIte, eq_self, true_or, or_true, n01_0, n01_1, kb_or, kb_0T, kb_0F, vn_0, vn_1, vn_k, nl_0, nl_1, nl_2, nl_3, nl_4, nl_5, nl_6, nl_7, nl_8, nl_9, nl_10, nl_11, nl_12, nl_13, nl_14, nl_15, nl_16, nl_20, nl_21, nl_22, nl_23, nl_24, nl_25, nl_26, nl_27, nl_28, nl_29, nl_30, nl_31, nl_32, nl_40, nl_41, nl_42, nl_43, nl_45, nl_47, nl_48, nl_50, nl_57, nl_59, nl_60, nl_61, nl_62, nl_63, nl_64, nl_91, nl_93, nl_94, nl_97, nl_98, nl_100, nl_110, nl_122, nl_130, nl_144, nl_160, nl_240, nl_241, nl_255, nl_256, nl_400, nl_800, nl_900, nl_999, nl_1000, nl_1001, nl_1024, nl_1103, nl_1928, nl_4321, nl_5560, nl_12345, nl_1000000, nl_1000003, nl_252645135, nl_858993459, nl_1431655765, nl_1000000000, leT, ↓b_of (e_m_n h.1), n1]
        rw [e223]
        by_cases z : L ≤ lg
        · rw [if_pos z, if_pos z]
          simp (disch := omega) only [k_let, Option.bind_some, ↓reduceIte, eq_self, true_or, or_true, n01_0, n01_1, kb_or, kb_0T, kb_0F, vn_0, vn_1, vn_k, nl_0, nl_1, nl_2, nl_3, nl_4, nl_5, nl_6, nl_7, nl_8, nl_9, nl_10, nl_11, nl_12, nl_13, nl_14, nl_15, nl_16, nl_20, nl_21, nl_22, nl_23, nl_24, nl_25, nl_26, nl_27, nl_28, nl_29, nl_30, nl_31, nl_32, nl_40, nl_41, nl_42, nl_43, nl_45, nl_47, nl_48, nl_50, nl_57, nl_59, nl_60, nl_61, nl_62, nl_63, nl_64, nl_91, nl_93, nl_94, nl_97, nl_98, nl_100, nl_110, nl_122, nl_130, nl_144, nl_160, nl_240, nl_241, nl_255, nl_256, nl_400, nl_800, nl_900, nl_999, nl_1000, nl_1001, nl_1024, nl_1103, nl_1928, nl_4321, nl_5560, nl_12345, nl_1000000, nl_1000003, nl_252645135, nl_858993459, nl_1431655765, nl_1000000000, nI_add, pk_mul, n_sub, n_neg, n_cl, leT, leF, ltT, ltF, eqT, eqF, kbT, s_II, s_In, s_IJ, s_IA, s_IL, s_IR, s_IC, s_JI, s_JJ, s_Jn, s_JA, s_JL, s_JR, s_JC, s_AI, s_AJ, s_AA, s_An, s_AL, s_AR, s_AC, s_LI, s_LJ, s_LA, s_LL, s_Ln, s_LR, s_LC, f_X12_bands_223, f_X12_bands_239, f_X12_bands_255, f_X12_bands_257]
        · rw [if_neg z, if_neg z]
          simp (disch := omega) only [k_let, Option.bind_some, ↓reduceIte, eq_self, true_or, or_true, n01_0, n01_1, kb_or, kb_0T, kb_0F, vn_0, vn_1, vn_k, nl_0, nl_1, nl_2, nl_3, nl_4, nl_5, nl_6, nl_7, nl_8, nl_9, nl_10, nl_11, nl_12, nl_13, nl_14, nl_15, nl_16, nl_20, nl_21, nl_22, nl_23, nl_24, nl_25, nl_26, nl_27, nl_28, nl_29, nl_30, nl_31, nl_32, nl_40, nl_41, nl_42, nl_43, nl_45, nl_47, nl_48, nl_50, nl_57, nl_59, nl_60, nl_61, nl_62, nl_63, nl_64, nl_91, nl_93, nl_94, nl_97, nl_98, nl_100, nl_110, nl_122, nl_130, nl_144, nl_160, nl_240, nl_241, nl_255, nl_256, nl_400, nl_800, nl_900, nl_999, nl_1000, nl_1001, nl_1024, nl_1103, nl_1928, nl_4321, nl_5560, nl_12345, nl_1000000, nl_1000003, nl_252645135, nl_858993459, nl_1431655765, nl_1000000000, nI_add, pk_mul, n_sub, n_neg, n_cl, leT, leF, ltT, ltF, eqT, eqF, kbT, s_II, s_In, s_IJ, s_IA, s_IL, s_IR, s_IC, s_JI, s_JJ, s_Jn, s_JA, s_JL, s_JR, s_JC, s_AI, s_AJ, s_AA, s_An, s_AL, s_AR, s_AC, s_LI, s_LJ, s_LA, s_LL, s_Ln, s_LR, s_LC, f_X12_bands_223, f_X12_bands_239, f_X12_bands_255, f_X12_bands_257]
      rw [step]
      refine ih g (s + 1) _ _ (by omega) (by omega) (Or.inr ⟨by
        by_cases z : L ≤ lg
        · rw [if_pos z]; omega
        · rw [if_neg z]; omega, ?_⟩)
      rcases hB with ⟨z1, z2, z3⟩ | ⟨z1, hB⟩
      · have : ¬ L ≤ lg := by omega
        rw [if_neg this, if_neg this]
        refine ⟨⟨c, hl.symm⟩, fun s' hs' hlt => ?_⟩
        have : s' = s := by omega
        rw [this, hl]
        exact Or.inr ⟨rfl, Nat.le_refl _⟩
      · by_cases z : L ≤ lg
        · rw [if_pos z, if_pos z]
          refine ⟨hB.1, fun s' hs' hlt => ?_⟩
          by_cases q : s' = s
          · rw [q, hl]
            omega
          · exact hB.2 s' hs' (by omega)
        · rw [if_neg z, if_neg z]
          refine ⟨⟨c, hl.symm⟩, fun s' hs' hlt => ?_⟩
          by_cases q : s' = s
          · rw [q, hl]; exact Or.inr ⟨rfl, Nat.le_refl _⟩
          · have := hB.2 s' hs' (by omega)
            omega
    · have ea : an s (hoM r V k (nD r)) ≠ 0 := fun q => c (an_0.mp q)
      have step : f_X12_bands_134 (g + 1) (nI what) (nI (hoM r V k (nD r))) (nI (hoA r V k (nD r))) (nI L) (nI f) (nI s) U = f_X12_bands_134 g (nI what) (nI (hoM r V k (nD r))) (nI (hoA r V k (nD r))) (nI L) (nI f) (nI (s + 1)) U := by
        rw [f_X12_bands_134]
        simp (disch := omega) only [k_let, Option.bind_some, ↓reduceIte, eq_self, true_or, or_true, n01_0, n01_1, kb_or, kb_0T, kb_0F, vn_0, vn_1, vn_k, nl_0, nl_1, nl_2, nl_3, nl_4, nl_5, nl_6, nl_7, nl_8, nl_9, nl_10, nl_11, nl_12, nl_13, nl_14, nl_15, nl_16, nl_20, nl_21, nl_22, nl_23, nl_24, nl_25, nl_26, nl_27, nl_28, nl_29, nl_30, nl_31, nl_32, nl_40, nl_41, nl_42, nl_43, nl_45, nl_47, nl_48, nl_50, nl_57, nl_59, nl_60, nl_61, nl_62, nl_63, nl_64, nl_91, nl_93, nl_94, nl_97, nl_98, nl_100, nl_110, nl_122, nl_130, nl_144, nl_160, nl_240, nl_241, nl_255, nl_256, nl_400, nl_800, nl_900, nl_999, nl_1000, nl_1001, nl_1024, nl_1103, nl_1928, nl_4321, nl_5560, nl_12345, nl_1000000, nl_1000003, nl_252645135, nl_858993459, nl_1431655765, nl_1000000000, nI_add, pk_mul, n_sub, n_neg, n_cl, leT, leF, ltT, ltF, eqT, eqF, kbT, s_II, s_In, s_IJ, s_IA, s_IL, s_IR, s_IC, s_JI, s_JJ, s_Jn, s_JA, s_JL, s_JR, s_JC, s_AI, s_AJ, s_AA, s_An, s_AL, s_AR, s_AC, s_LI, s_LJ, s_LA, s_LL, s_Ln, s_LR, s_LC, zleT, zleF, zltT, zltF, zeqT, zeqF, nzleT, nzleF, nzltT, nzltF, nzeqT, nzeqF, znleT, znleF, znltT, znltF, zneqT, zneqF, z_add, z_sub, z_mul, z_neg, z_an, z_na, z_sn, z_ns, z_mn, z_nm, ean, f_X12_bands_257]
      rw [step]
      refine ih g (s + 1) L f (by omega) (by omega) (Or.inr ⟨by omega, ?_⟩)
      rcases hB with ⟨z1, z2, z3⟩ | ⟨z1, hB⟩
      · exact absurd (by rw [z1]; exact Nat.zero_and _) c
      · refine ⟨hB.1, fun s' hs' hlt => ?_⟩
        by_cases q : s' = s
        · exact absurd (q ▸ hs') c
        · exact hB.2 s' hs' (by omega)
theorem p_bands (x y : Int32) : Pr (f_X11_bands x y) (f_X12_bands x y) := by
  intro S h
  have hv := Iv.of h
  generalize hr : gA S 53 = r at hv
  have w := hv.wf
  have h16 := w.n16
  obtain ⟨V, hA⟩ := ask hv
  have hv2 := hv.fs (fs33 S)
  have l1 : (y < nI 0) = (y.toInt < (0 : Nat)) := lt_xn y 0 (by decide)
  have l2 : (y ≤ nI 1) = (y.toInt ≤ (1 : Nat)) := le_xn y 1 (by decide)
  by_cases c : 0 ≤ x.toInt ∧ x.toInt ≤ 7
  · obtain ⟨k, rfl, hk, -⟩ := rng_n (x := x) (n := 8) (by omega)
    have b0 := e_dancer (nI k) S
    rw [decide_eq_true c, kB_t] at b0
    by_cases c1 : 0 ≤ y.toInt ∧ y.toInt ≤ 1
    · obtain ⟨q, rfl, hq, -⟩ := rng_n (x := y) (n := 2) (by omega)
      obtain ⟨W, L, f, w1, w2, w3, w4, w5⟩ := e_bfind hA (Fr.refl S) hk
      have f33 : Fs S (sI W 33 (nI 0)) := w2.sI rfl _
      obtain ⟨-, U, u1, u2, u3, u4⟩ := hA (sI W 33 (nI 0)) f33
      have b1 := e_m_dancer (nI k) (sI W 33 (nI 0))
      rw [decide_eq_true c, kB_t] at b1
      have b2 : f_X12_in (nI q).toInt64 (lZ 0) (lZ 1) (sI W 33 (nI 0)) = some (nI 1, sI W 33 (nI 0)) := by
        rw [e_in _ _ _ _ (by decide) (by decide) (by decide) (by decide), decide_eq_true c1, kB_t]
      have hM : hoM r V k (nD r) < 65536 := Nat.lt_of_lt_of_le (hoM_lt r V k (nD r)) (Nat.pow_le_pow_right (n := 2) (j := 16) (by decide) h16)
      obtain ⟨L', f', v1, v2⟩ := l_b134 (k := k) u4 hq (hoM r V k (nD r) + 1) FU 0 1000000 0 (by omega) (FU_ge (by omega)) (Or.inl ⟨rfl, rfl, rfl⟩)
      have v3 := l_b36 (what := q) u4 hk (nD r) FU 0 (by omega) (FU_ge (by omega))
      rw [show hoM r V k 0 = 0 from rfl, show hoA r V k 0 = 0 from rfl, v2] at v3
      obtain ⟨rfl, rfl⟩ := w5.one v1
      refine ⟨if q = 0 then nI L else nI f, W, U, ?_, ?_, (hv.fs u3).1⟩
      · unfold f_X11_bands f_X11_bands_47
        have hq2 : q = 0 ∨ q = 1 := by omega
        rcases hq2 with rfl | rfl
        · simp (disch := omega) only [k_let, Option.bind_some, ↓reduceIte, eq_self, true_or, or_true, n01_0, n01_1, kb_or, kb_0T, kb_0F, vn_0, vn_1, vn_k, nl_0, nl_1, nl_2, nl_3, nl_4, nl_5, nl_6, nl_7, nl_8, nl_9, nl_10, nl_11, nl_12, nl_13, nl_14, nl_15, nl_16, nl_20, nl_21, nl_22, nl_23, nl_24, nl_25, nl_26, nl_27, nl_28, nl_29, nl_30, nl_31, nl_32, nl_40, nl_41, nl_42, nl_43, nl_45, nl_47, nl_48, nl_50, nl_57, nl_59, nl_60, nl_61, nl_62, nl_63, nl_64, nl_91, nl_93, nl_94, nl_97, nl_98, nl_100, nl_110, nl_122, nl_130, nl_144, nl_160, nl_240, nl_241, nl_255, nl_256, nl_400, nl_800, nl_900, nl_999, nl_1000, nl_1001, nl_1024, nl_1103, nl_1928, nl_4321, nl_5560, nl_12345, nl_1000000, nl_1000003, nl_252645135, nl_858993459, nl_1431655765, nl_1000000000, nI_add, pk_mul, n_sub, n_neg, n_cl, leT, leF, ltT, ltF, eqT, eqF, kbT, s_II, s_In, s_IJ, s_IA, s_IL, s_IR, s_IC, s_JI, s_JJ, s_Jn, s_JA, s_JL, s_JR, s_JC, s_AI, s_AJ, s_AA, s_An, s_AL, s_AR, s_AC, s_LI, s_LJ, s_LA, s_LL, s_Ln, s_LR, s_LC, ↓b_of b0, ↓b_of w1, w3]
        · rw [if_neg (by decide)]
          simp (disch := omega) only [k_let, Option.bind_some, ↓reduceIte, eq_self, true_or, or_true, n01_0, n01_1, kb_or, kb_0T, kb_0F, vn_0, vn_1, vn_k, nl_0, nl_1, nl_2, nl_3, nl_4, nl_5, nl_6, nl_7, nl_8, nl_9, nl_10, nl_11, nl_12, nl_13, nl_14, nl_15, nl_16, nl_20, nl_21, nl_22, nl_23, nl_24, nl_25, nl_26, nl_27, nl_28, nl_29, nl_30, nl_31, nl_32, nl_40, nl_41, nl_42, nl_43, nl_45, nl_47, nl_48, nl_50, nl_57, nl_59, nl_60, nl_61, nl_62, nl_63, nl_64, nl_91, nl_93, nl_94, nl_97, nl_98, nl_100, nl_110, nl_122, nl_130, nl_144, nl_160, nl_240, nl_241, nl_255, nl_256, nl_400, nl_800, nl_900, nl_999, nl_1000, nl_1001, nl_1024, nl_1103, nl_1928, nl_4321, nl_5560, nl_12345, nl_1000000, nl_1000003, nl_252645135, nl_858993459, nl_1431655765, nl_1000000000, nI_add, pk_mul, n_sub, n_neg, n_cl, leT, leF, ltT, ltF, eqT, eqF, kbT, s_II, s_In, s_IJ, s_IA, s_IL, s_IR, s_IC, s_JI, s_JJ, s_Jn, s_JA, s_JL, s_JR, s_JC, s_AI, s_AJ, s_AA, s_An, s_AL, s_AR, s_AC, s_LI, s_LJ, s_LA, s_LL, s_Ln, s_LR, s_LC, ↓b_of b0, ↓b_of w1, w4]
      · unfold f_X12_bands
        simp (disch := omega) only [k_let, Option.bind_some, ↓reduceIte, eq_self, true_or, or_true, n01_0, n01_1, kb_or, kb_0T, kb_0F, vn_0, vn_1, vn_k, nl_0, nl_1, nl_2, nl_3, nl_4, nl_5, nl_6, nl_7, nl_8, nl_9, nl_10, nl_11, nl_12, nl_13, nl_14, nl_15, nl_16, nl_20, nl_21, nl_22, nl_23, nl_24, nl_25, nl_26, nl_27, nl_28, nl_29, nl_30, nl_31, nl_32, nl_40, nl_41, nl_42, nl_43, nl_45, nl_47, nl_48, nl_50, nl_57, nl_59, nl_60, nl_61, nl_62, nl_63, nl_64, nl_91, nl_93, nl_94, nl_97, nl_98, nl_100, nl_110, nl_122, nl_130, nl_144, nl_160, nl_240, nl_241, nl_255, nl_256, nl_400, nl_800, nl_900, nl_999, nl_1000, nl_1001, nl_1024, nl_1103, nl_1928, nl_4321, nl_5560, nl_12345, nl_1000000, nl_1000003, nl_252645135, nl_858993459, nl_1431655765, nl_1000000000, nI_add, pk_mul, n_sub, n_neg, n_cl, leT, leF, ltT, ltF, eqT, eqF, kbT, s_II, s_In, s_IJ, s_IA, s_IL, s_IR, s_IC, s_JI, s_JJ, s_Jn, s_JA, s_JL, s_JR, s_JC, s_AI, s_AJ, s_AA, s_An, s_AL, s_AR, s_AC, s_LI, s_LJ, s_LA, s_LL, s_Ln, s_LR, s_LC, ll_0, ll_1, ll_2, ll_7, ll_8, ll_9, ll_10, ll_20, ll_23, ll_24, ll_26, ll_30, ll_32, ll_48, ll_96, ll_240, ll_256, ll_294, ll_498, ll_999, ll_1000, ll_1103, ll_1476, ll_12345, ll_14836, ll_65536, ll_1000000, ll_1000003, ll_1048576, ll_1000000000, ↓b_of b1, b1, b2, u1, v3]
    · refine ⟨iZ (-((1 : Nat) : Int)), S, sI S 33 (nI 0), ?_, ?_, hv2.1⟩
      · unfold f_X11_bands f_X11_bands_16
        by_cases c3 : y.toInt < (0 : Nat)
        · simp (disch := omega) only [k_let, Option.bind_some, ↓reduceIte, eq_self, true_or, or_true, n01_0, n01_1, kb_or, kb_0T, kb_0F, vn_0, vn_1, vn_k, nl_0, nl_1, nl_2, nl_3, nl_4, nl_5, nl_6, nl_7, nl_8, nl_9, nl_10, nl_11, nl_12, nl_13, nl_14, nl_15, nl_16, nl_20, nl_21, nl_22, nl_23, nl_24, nl_25, nl_26, nl_27, nl_28, nl_29, nl_30, nl_31, nl_32, nl_40, nl_41, nl_42, nl_43, nl_45, nl_47, nl_48, nl_50, nl_57, nl_59, nl_60, nl_61, nl_62, nl_63, nl_64, nl_91, nl_93, nl_94, nl_97, nl_98, nl_100, nl_110, nl_122, nl_130, nl_144, nl_160, nl_240, nl_241, nl_255, nl_256, nl_400, nl_800, nl_900, nl_999, nl_1000, nl_1001, nl_1024, nl_1103, nl_1928, nl_4321, nl_5560, nl_12345, nl_1000000, nl_1000003, nl_252645135, nl_858993459, nl_1431655765, nl_1000000000, nI_add, pk_mul, n_sub, n_neg, n_cl, leT, leF, ltT, ltF, eqT, eqF, kbT, s_II, s_In, s_IJ, s_IA, s_IL, s_IR, s_IC, s_JI, s_JJ, s_Jn, s_JA, s_JL, s_JR, s_JC, s_AI, s_AJ, s_AA, s_An, s_AL, s_AR, s_AC, s_LI, s_LJ, s_LA, s_LL, s_Ln, s_LR, s_LC, zleT, zleF, zltT, zltF, zeqT, zeqF, nzleT, nzleF, nzltT, nzltF, nzeqT, nzeqF, znleT, znleF, znltT, znltF, zneqT, zneqF, z_add, z_sub, z_mul, z_neg, z_an, z_na, z_sn, z_ns, z_mn, z_nm, Nat.add_sub_cancel, decide_true, decide_false, and_self, e_done, e_ref1, e_ref2, e_ref3, e_ref5, e_ref6, e_tel1, e_tel2, e_tel3, e_tel5, e_tel6, e_telN, rfT_m, ↓b_of b0, l1, c3]
        · simp (disch := omega) only [k_let, Option.bind_some, ↓reduceIte, eq_self, true_or, or_true, n01_0, n01_1, kb_or, kb_0T, kb_0F, vn_0, vn_1, vn_k, nl_0, nl_1, nl_2, nl_3, nl_4, nl_5, nl_6, nl_7, nl_8, nl_9, nl_10, nl_11, nl_12, nl_13, nl_14, nl_15, nl_16, nl_20, nl_21, nl_22, nl_23, nl_24, nl_25, nl_26, nl_27, nl_28, nl_29, nl_30, nl_31, nl_32, nl_40, nl_41, nl_42, nl_43, nl_45, nl_47, nl_48, nl_50, nl_57, nl_59, nl_60, nl_61, nl_62, nl_63, nl_64, nl_91, nl_93, nl_94, nl_97, nl_98, nl_100, nl_110, nl_122, nl_130, nl_144, nl_160, nl_240, nl_241, nl_255, nl_256, nl_400, nl_800, nl_900, nl_999, nl_1000, nl_1001, nl_1024, nl_1103, nl_1928, nl_4321, nl_5560, nl_12345, nl_1000000, nl_1000003, nl_252645135, nl_858993459, nl_1431655765, nl_1000000000, nI_add, pk_mul, n_sub, n_neg, n_cl, leT, leF, ltT, ltF, eqT, eqF, kbT, s_II, s_In, s_IJ, s_IA, s_IL, s_IR, s_IC, s_JI, s_JJ, s_Jn, s_JA, s_JL, s_JR, s_JC, s_AI, s_AJ, s_AA, s_An, s_AL, s_AR, s_AC, s_LI, s_LJ, s_LA, s_LL, s_Ln, s_LR, s_LC, zleT, zleF, zltT, zltF, zeqT, zeqF, nzleT, nzleF, nzltT, nzltF, nzeqT, nzeqF, znleT, znleF, znltT, znltF, zneqT, zneqF, z_add, z_sub, z_mul, z_neg, z_an, z_na, z_sn, z_ns, z_mn, z_nm, Nat.add_sub_cancel, decide_true, decide_false, and_self, e_done, e_ref1, e_ref2, e_ref3, e_ref5, e_ref6, e_tel1, e_tel2, e_tel3, e_tel5, e_tel6, e_telN, rfT_m, ↓b_of b0, l1, l2, c3, show ¬ y.toInt ≤ (1 : Nat) by omega]
      · unfold f_X12_bands f_X12_bands_22
        simp (disch := omega) only [k_let, Option.bind_some, ↓reduceIte, eq_self, true_or, or_true, n01_0, n01_1, kb_or, kb_0T, kb_0F, vn_0, vn_1, vn_k, nl_0, nl_1, nl_2, nl_3, nl_4, nl_5, nl_6, nl_7, nl_8, nl_9, nl_10, nl_11, nl_12, nl_13, nl_14, nl_15, nl_16, nl_20, nl_21, nl_22, nl_23, nl_24, nl_25, nl_26, nl_27, nl_28, nl_29, nl_30, nl_31, nl_32, nl_40, nl_41, nl_42, nl_43, nl_45, nl_47, nl_48, nl_50, nl_57, nl_59, nl_60, nl_61, nl_62, nl_63, nl_64, nl_91, nl_93, nl_94, nl_97, nl_98, nl_100, nl_110, nl_122, nl_130, nl_144, nl_160, nl_240, nl_241, nl_255, nl_256, nl_400, nl_800, nl_900, nl_999, nl_1000, nl_1001, nl_1024, nl_1103, nl_1928, nl_4321, nl_5560, nl_12345, nl_1000000, nl_1000003, nl_252645135, nl_858993459, nl_1431655765, nl_1000000000, nI_add, pk_mul, n_sub, n_neg, n_cl, leT, leF, ltT, ltF, eqT, eqF, kbT, s_II, s_In, s_IJ, s_IA, s_IL, s_IR, s_IC, s_JI, s_JJ, s_Jn, s_JA, s_JL, s_JR, s_JC, s_AI, s_AJ, s_AA, s_An, s_AL, s_AR, s_AC, s_LI, s_LJ, s_LA, s_LL, s_Ln, s_LR, s_LC, zleT, zleF, zltT, zltF, zeqT, zeqF, nzleT, nzleF, nzltT, nzltF, nzeqT, nzeqF, znleT, znleF, znltT, znltF, zneqT, zneqF, z_add, z_sub, z_mul, z_neg, z_an, z_na, z_sn, z_ns, z_mn, z_nm, Nat.add_sub_cancel, decide_true, decide_false, and_self, e_done, e_ref1, e_ref2, e_ref3, e_ref5, e_ref6, e_tel1, e_tel2, e_tel3, e_tel5, e_tel6, e_telN, rfT_m, ll_0, ll_1, ll_2, ll_7, ll_8, ll_9, ll_10, ll_20, ll_23, ll_24, ll_26, ll_30, ll_32, ll_48, ll_96, ll_240, ll_256, ll_294, ll_498, ll_999, ll_1000, ll_1103, ll_1476, ll_12345, ll_14836, ll_65536, ll_1000000, ll_1000003, ll_1048576, ll_1000000000, e_m_dancer, decide_eq_true c, kB_t, e_in, decide_eq_false c1]
  · refine ⟨iZ (-((1 : Nat) : Int)), S, sI S 33 (nI 0), ?_, ?_, hv2.1⟩
    · unfold f_X11_bands f_X11_bands_16
      simp (disch := omega) only [k_let, Option.bind_some, ↓reduceIte, eq_self, true_or, or_true, n01_0, n01_1, kb_or, kb_0T, kb_0F, vn_0, vn_1, vn_k, nl_0, nl_1, nl_2, nl_3, nl_4, nl_5, nl_6, nl_7, nl_8, nl_9, nl_10, nl_11, nl_12, nl_13, nl_14, nl_15, nl_16, nl_20, nl_21, nl_22, nl_23, nl_24, nl_25, nl_26, nl_27, nl_28, nl_29, nl_30, nl_31, nl_32, nl_40, nl_41, nl_42, nl_43, nl_45, nl_47, nl_48, nl_50, nl_57, nl_59, nl_60, nl_61, nl_62, nl_63, nl_64, nl_91, nl_93, nl_94, nl_97, nl_98, nl_100, nl_110, nl_122, nl_130, nl_144, nl_160, nl_240, nl_241, nl_255, nl_256, nl_400, nl_800, nl_900, nl_999, nl_1000, nl_1001, nl_1024, nl_1103, nl_1928, nl_4321, nl_5560, nl_12345, nl_1000000, nl_1000003, nl_252645135, nl_858993459, nl_1431655765, nl_1000000000, nI_add, pk_mul, n_sub, n_neg, n_cl, leT, leF, ltT, ltF, eqT, eqF, kbT, s_II, s_In, s_IJ, s_IA, s_IL, s_IR, s_IC, s_JI, s_JJ, s_Jn, s_JA, s_JL, s_JR, s_JC, s_AI, s_AJ, s_AA, s_An, s_AL, s_AR, s_AC, s_LI, s_LJ, s_LA, s_LL, s_Ln, s_LR, s_LC, zleT, zleF, zltT, zltF, zeqT, zeqF, nzleT, nzleF, nzltT, nzltF, nzeqT, nzeqF, znleT, znleF, znltT, znltF, zneqT, zneqF, z_add, z_sub, z_mul, z_neg, z_an, z_na, z_sn, z_ns, z_mn, z_nm, Nat.add_sub_cancel, decide_true, decide_false, and_self, e_done, e_ref1, e_ref2, e_ref3, e_ref5, e_ref6, e_tel1, e_tel2, e_tel3, e_tel5, e_tel6, e_telN, rfT_m, e_dancer, decide_eq_false c]
    · unfold f_X12_bands f_X12_bands_22
      simp (disch := omega) only [k_let, Option.bind_some, ↓reduceIte, eq_self, true_or, or_true, n01_0, n01_1, kb_or, kb_0T, kb_0F, vn_0, vn_1, vn_k, nl_0, nl_1, nl_2, nl_3, nl_4, nl_5, nl_6, nl_7, nl_8, nl_9, nl_10, nl_11, nl_12, nl_13, nl_14, nl_15, nl_16, nl_20, nl_21, nl_22, nl_23, nl_24, nl_25, nl_26, nl_27, nl_28, nl_29, nl_30, nl_31, nl_32, nl_40, nl_41, nl_42, nl_43, nl_45, nl_47, nl_48, nl_50, nl_57, nl_59, nl_60, nl_61, nl_62, nl_63, nl_64, nl_91, nl_93, nl_94, nl_97, nl_98, nl_100, nl_110, nl_122, nl_130, nl_144, nl_160, nl_240, nl_241, nl_255, nl_256, nl_400, nl_800, nl_900, nl_999, nl_1000, nl_1001, nl_1024, nl_1103, nl_1928, nl_4321, nl_5560, nl_12345, nl_1000000, nl_1000003, nl_252645135, nl_858993459, nl_1431655765, nl_1000000000, nI_add, pk_mul, n_sub, n_neg, n_cl, leT, leF, ltT, ltF, eqT, eqF, kbT, s_II, s_In, s_IJ, s_IA, s_IL, s_IR, s_IC, s_JI, s_JJ, s_Jn, s_JA, s_JL, s_JR, s_JC, s_AI, s_AJ, s_AA, s_An, s_AL, s_AR, s_AC, s_LI, s_LJ, s_LA, s_LL, s_Ln, s_LR, s_LC, zleT, zleF, zltT, zltF, zeqT, zeqF, nzleT, nzleF, nzltT, nzltF, nzeqT, nzeqF, znleT, znleF, znltT, znltF, zneqT, zneqF, z_add, z_sub, z_mul, z_neg, z_an, z_na, z_sn, z_ns, z_mn, z_nm, Nat.add_sub_cancel, decide_true, decide_false, and_self, e_done, e_ref1, e_ref2, e_ref3, e_ref5, e_ref6, e_tel1, e_tel2, e_tel3, e_tel5, e_tel6, e_telN, rfT_m, e_m_dancer, decide_eq_false c]
