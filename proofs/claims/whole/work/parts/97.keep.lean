/-! part 97: the reference keeps the best ring -/
theorem ps_congr {p q : Nat → Nat} : ∀ {n : Nat}, (∀ i, i < n → p i = q i) → ps p n = ps q n := by
  intro n
  induction n with
  | zero => intro _; rfl
  | succ n ih =>
    intro h
    show ps p n ||| 2 ^ p n = ps q n ||| 2 ^ q n
    rw [ih (fun i hi => h i (by omega)), h n (by omega)]
/-- kept is the best of the rings with P -/
def KpR (P : Nat → (Nat → Nat) → Prop) (U : St) : Prop :=
  (gI U 49 = nI 0 ∧ ∀ n p, ¬ P n p) ∨ (∃ n p, P n p ∧ 2 ≤ n ∧ n ≤ 8 ∧ ps p n < 256 ∧ gI U 49 = nI n ∧ gI U 50 = nI (ps p n) ∧ (∀ j, j < n → gA U 73 j = nI (p j)) ∧ ∀ n' p', P n' p' → n < n' ∨ (n = n' ∧ ps p n ≤ ps p' n'))
theorem KpR.iff {P Q : Nat → (Nat → Nat) → Prop} {U : St} (h : KpR P U) (e : ∀ n p, P n p ↔ Q n p) : KpR Q U := by
  rcases h with ⟨h1, h2⟩ | ⟨n, p, h1, h2, h3, h4, h5, h6, h7, h8⟩
  · exact Or.inl ⟨h1, fun n p q => h2 n p ((e n p).mpr q)⟩
  · exact Or.inr ⟨n, p, (e n p).mp h1, h2, h3, h4, h5, h6, h7, fun n' p' q => h8 n' p' ((e n' p').mpr q)⟩
theorem KpR.fr {P : Nat → (Nat → Nat) → Prop} {U W : St} (h : KpR P U) {ci cj ca cl : List Nat} (f : Fr ci cj ca cl U W) (h1 : ci.contains 49 = false) (h2 : ci.contains 50 = false) (h3 : ca.contains 73 = false) : KpR P W := by
  unfold KpR
  rw [f.I h1, f.I h2, f.A h3]
  exact h
theorem l_k43 {n : Nat} {p : Nat → Nat} {S : St} (hn : n ≤ 8) (h72 : ∀ j, j < n → gA S 72 j = nI (p j)) : ∀ (m f j : Nat) (U : St), j + m = n → m < f → Fr [] [] [73] [] S U → (∀ i, i < j → gA U 73 i = nI (p i)) →
    ∃ W, f_X12_keepRing_43 f (nI n) (nI j) U = some W ∧ Fr [] [] [73] [] S W ∧ (∀ i, i < n → gA W 73 i = nI (p i)) := by
  intro m
  induction m with
  | zero =>
    intro f j U hj hf hF hR
    obtain ⟨f, rfl⟩ : ∃ g, f = g + 1 := ⟨f - 1, by omega⟩
    have : j = n := by omega
    subst this
    refine ⟨U, ?_, hF, hR⟩
    rw [f_X12_keepRing_43, f_X12_keepRing_66]
    simp (disch := omega) only [k_let, Option.bind_some, ↓reduceIte, eq_self, true_or, or_true, n01_0, n01_1, kb_or, kb_0T, kb_0F, vn_0, vn_1, vn_k, nl_0, nl_1, nl_2, nl_3, nl_4, nl_5, nl_6, nl_7, nl_8, nl_9, nl_10, nl_11, nl_12, nl_13, nl_14, nl_15, nl_16, nl_20, nl_21, nl_22, nl_23, nl_24, nl_25, nl_26, nl_27, nl_28, nl_29, nl_30, nl_31, nl_32, nl_40, nl_41, nl_42, nl_43, nl_45, nl_47, nl_48, nl_50, nl_57, nl_59, nl_60, nl_61, nl_62, nl_63, nl_64, nl_91, nl_93, nl_94, nl_97, nl_98, nl_100, nl_110, nl_122, nl_130, nl_144, nl_160, nl_240, nl_241, nl_255, nl_256, nl_400, nl_800, nl_900, nl_999, nl_1000, nl_1001, nl_1024, nl_1103, nl_1928, nl_4321, nl_5560, nl_12345, nl_1000000, nl_1000003, nl_252645135, nl_858993459, nl_1431655765, nl_1000000000, nI_add, pk_mul, n_sub, n_neg, n_cl, leT, leF, ltT, ltF, eqT, eqF, kbT, s_II, s_In, s_IJ, s_IA, s_IL, s_IR, s_IC, s_JI, s_JJ, s_Jn, s_JA, s_JL, s_JR, s_JC, s_AI, s_AJ, s_AA, s_An, s_AL, s_AR, s_AC, s_LI, s_LJ, s_LA, s_LL, s_Ln, s_LR, s_LC]
  | succ m ih =>
    intro f j U hj hf hF hR
    obtain ⟨f, rfl⟩ : ∃ g, f = g + 1 := ⟨f - 1, by omega⟩
    have a := h72 j (by omega)
    rw [← hF.A (k := 72) rfl] at a
    have e : f_X12_keepRing_43 (f + 1) (nI n) (nI j) U = f_X12_keepRing_43 f (nI n) (nI (j + 1)) (sA U 73 j (nI (p j))) := by
      rw [f_X12_keepRing_43]
      simp (disch := omega) only [k_let, Option.bind_some, ↓reduceIte, eq_self, true_or, or_true, n01_0, n01_1, kb_or, kb_0T, kb_0F, vn_0, vn_1, vn_k, nl_0, nl_1, nl_2, nl_3, nl_4, nl_5, nl_6, nl_7, nl_8, nl_9, nl_10, nl_11, nl_12, nl_13, nl_14, nl_15, nl_16, nl_20, nl_21, nl_22, nl_23, nl_24, nl_25, nl_26, nl_27, nl_28, nl_29, nl_30, nl_31, nl_32, nl_40, nl_41, nl_42, nl_43, nl_45, nl_47, nl_48, nl_50, nl_57, nl_59, nl_60, nl_61, nl_62, nl_63, nl_64, nl_91, nl_93, nl_94, nl_97, nl_98, nl_100, nl_110, nl_122, nl_130, nl_144, nl_160, nl_240, nl_241, nl_255, nl_256, nl_400, nl_800, nl_900, nl_999, nl_1000, nl_1001, nl_1024, nl_1103, nl_1928, nl_4321, nl_5560, nl_12345, nl_1000000, nl_1000003, nl_252645135, nl_858993459, nl_1431655765, nl_1000000000, nI_add, pk_mul, n_sub, n_neg, n_cl, leT, leF, ltT, ltF, eqT, eqF, kbT, s_II, s_In, s_IJ, s_IA, s_IL, s_IR, s_IC, s_JI, s_JJ, s_Jn, s_JA, s_JL, s_JR, s_JC, s_AI, s_AJ, s_AA, s_An, s_AL, s_AR, s_AC, s_LI, s_LJ, s_LA, s_LL, s_Ln, s_LR, s_LC, a]
    rw [e]
    refine ih f (j + 1) _ (by omega) (by omega) (hF.sA rfl _ _) (fun i hi => ?_)
    rw [s_AA]
    by_cases q : i = j
    · rw [q, u_s]
    · rw [u_n q]; exact hR i (by omega)
theorem e_keep {P : Nat → (Nat → Nat) → Prop} {n : Nat} {p : Nat → Nat} {U : St} (h : KpR P U) (hn2 : 2 ≤ n) (hn : n ≤ 8) (hp : ps p n < 256) (h72 : ∀ j, j < n → gA U 72 j = nI (p j)) :
    ∃ W, f_X12_keepRing (nI n) (nI (ps p n)) U = some W ∧ Fr [49, 50] [] [73] [] U W ∧ KpR (fun n' p' => P n' p' ∨ (n' = n ∧ ∀ j, j < n → p' j = p j)) W := by
  have put : ∃ W, f_X12_keepRing_31 (nI n) (nI (ps p n)) U = some W ∧ Fr [49, 50] [] [73] [] U W ∧ gI W 49 = nI n ∧ gI W 50 = nI (ps p n) ∧ ∀ j, j < n → gA W 73 j = nI (p j) := by
    have f1 : Fr [49, 50] [] [73] [] U (sI (sI U 49 (nI n)) 50 (nI (ps p n))) := ((Fr.refl U).sI rfl _).sI rfl _
    obtain ⟨W, w1, w2, w3⟩ := l_k43 (n := n) (p := p) hn (fun j hj => by rw [f1.A (k := 72) rfl]; exact h72 j hj) n FU 0 (sI (sI U 49 (nI n)) 50 (nI (ps p n))) (by omega) (FU_ge (by omega)) (Fr.refl _) (fun i hi => absurd hi (Nat.not_lt_zero i))
    refine ⟨W, w1, f1.trans (w2.mono rfl rfl rfl rfl), ?_, ?_, w3⟩
    · rw [w2.I (k := 49) rfl, s_In (by decide), s_II]
    · rw [w2.I (k := 50) rfl, s_II]
  have new : ∀ {n' : Nat} {p' : Nat → Nat}, (n' = n ∧ ∀ j, j < n → p' j = p j) → n < n' ∨ (n = n' ∧ ps p n ≤ ps p' n') := fun {n' p'} q => by
    obtain ⟨q1, q2⟩ := q
    subst q1
    exact Or.inr ⟨rfl, by rw [ps_congr q2]; exact Nat.le_refl _⟩
  rcases h with ⟨h1, h2⟩ | ⟨n0, p0, h1, h2, h3, h4, h5, h6, h7, h8⟩
  · obtain ⟨W, w1, w2, w3, w4, w5⟩ := put
    refine ⟨W, ?_, w2, Or.inr ⟨n, p, Or.inr ⟨rfl, fun _ _ => rfl⟩, hn2, hn, hp, w3, w4, w5, fun n' p' q => ?_⟩⟩
    · unfold f_X12_keepRing
      simp (disch := omega) only [k_let, Option.bind_some, ↓reduceIte, eq_self, true_or, or_true, n01_0, n01_1, kb_or, kb_0T, kb_0F, vn_0, vn_1, vn_k, nl_0, nl_1, nl_2, nl_3, nl_4, nl_5, nl_6, nl_7, nl_8, nl_9, nl_10, nl_11, nl_12, nl_13, nl_14, nl_15, nl_16, nl_20, nl_21, nl_22, nl_23, nl_24, nl_25, nl_26, nl_27, nl_28, nl_29, nl_30, nl_31, nl_32, nl_40, nl_41, nl_42, nl_43, nl_45, nl_47, nl_48, nl_50, nl_57, nl_59, nl_60, nl_61, nl_62, nl_63, nl_64, nl_91, nl_93, nl_94, nl_97, nl_98, nl_100, nl_110, nl_122, nl_130, nl_144, nl_160, nl_240, nl_241, nl_255, nl_256, nl_400, nl_800, nl_900, nl_999, nl_1000, nl_1001, nl_1024, nl_1103, nl_1928, nl_4321, nl_5560, nl_12345, nl_1000000, nl_1000003, nl_252645135, nl_858993459, nl_1431655765, nl_1000000000, nI_add, pk_mul, n_sub, n_neg, n_cl, leT, leF, ltT, ltF, eqT, eqF, kbT, s_II, s_In, s_IJ, s_IA, s_IL, s_IR, s_IC, s_JI, s_JJ, s_Jn, s_JA, s_JL, s_JR, s_JC, s_AI, s_AJ, s_AA, s_An, s_AL, s_AR, s_AC, s_LI, s_LJ, s_LA, s_LL, s_Ln, s_LR, s_LC, h1, w1]
    · rcases q with q | q
      · exact absurd q (h2 n' p')
      · exact new q
  · by_cases c : n < n0 ∨ (n = n0 ∧ ps p n < ps p0 n0)
    · obtain ⟨W, w1, w2, w3, w4, w5⟩ := put
      refine ⟨W, ?_, w2, Or.inr ⟨n, p, Or.inr ⟨rfl, fun _ _ => rfl⟩, hn2, hn, hp, w3, w4, w5, fun n' p' q => ?_⟩⟩
      · unfold f_X12_keepRing
        by_cases d : n < n0
        · simp (disch := omega) only [k_let, Option.bind_some, ↓reduceIte, eq_self, true_or, or_true, n01_0, n01_1, kb_or, kb_0T, kb_0F, vn_0, vn_1, vn_k, nl_0, nl_1, nl_2, nl_3, nl_4, nl_5, nl_6, nl_7, nl_8, nl_9, nl_10, nl_11, nl_12, nl_13, nl_14, nl_15, nl_16, nl_20, nl_21, nl_22, nl_23, nl_24, nl_25, nl_26, nl_27, nl_28, nl_29, nl_30, nl_31, nl_32, nl_40, nl_41, nl_42, nl_43, nl_45, nl_47, nl_48, nl_50, nl_57, nl_59, nl_60, nl_61, nl_62, nl_63, nl_64, nl_91, nl_93, nl_94, nl_97, nl_98, nl_100, nl_110, nl_122, nl_130, nl_144, nl_160, nl_240, nl_241, nl_255, nl_256, nl_400, nl_800, nl_900, nl_999, nl_1000, nl_1001, nl_1024, nl_1103, nl_1928, nl_4321, nl_5560, nl_12345, nl_1000000, nl_1000003, nl_252645135, nl_858993459, nl_1431655765, nl_1000000000, nI_add, pk_mul, n_sub, n_neg, n_cl, leT, leF, ltT, ltF, eqT, eqF, kbT, s_II, s_In, s_IJ, s_IA, s_IL, s_IR, s_IC, s_JI, s_JJ, s_Jn, s_JA, s_JL, s_JR, s_JC, s_AI, s_AJ, s_AA, s_An, s_AL, s_AR, s_AC, s_LI, s_LJ, s_LA, s_LL, s_Ln, s_LR, s_LC, h5, w1]
        · simp (disch := omega) only [k_let, Option.bind_some, ↓reduceIte, eq_self, true_or, or_true, n01_0, n01_1, kb_or, kb_0T, kb_0F, vn_0, vn_1, vn_k, nl_0, nl_1, nl_2, nl_3, nl_4, nl_5, nl_6, nl_7, nl_8, nl_9, nl_10, nl_11, nl_12, nl_13, nl_14, nl_15, nl_16, nl_20, nl_21, nl_22, nl_23, nl_24, nl_25, nl_26, nl_27, nl_28, nl_29, nl_30, nl_31, nl_32, nl_40, nl_41, nl_42, nl_43, nl_45, nl_47, nl_48, nl_50, nl_57, nl_59, nl_60, nl_61, nl_62, nl_63, nl_64, nl_91, nl_93, nl_94, nl_97, nl_98, nl_100, nl_110, nl_122, nl_130, nl_144, nl_160, nl_240, nl_241, nl_255, nl_256, nl_400, nl_800, nl_900, nl_999, nl_1000, nl_1001, nl_1024, nl_1103, nl_1928, nl_4321, nl_5560, nl_12345, nl_1000000, nl_1000003, nl_252645135, nl_858993459, nl_1431655765, nl_1000000000, nI_add, pk_mul, n_sub, n_neg, n_cl, leT, leF, ltT, ltF, eqT, eqF, kbT, s_II, s_In, s_IJ, s_IA, s_IL, s_IR, s_IC, s_JI, s_JJ, s_Jn, s_JA, s_JL, s_JR, s_JC, s_AI, s_AJ, s_AA, s_An, s_AL, s_AR, s_AC, s_LI, s_LJ, s_LA, s_LL, s_Ln, s_LR, s_LC, h5, h6, w1]
      · rcases q with q | q
        · have := h8 n' p' q
          omega
        · exact new q
    · refine ⟨U, ?_, Fr.refl _, Or.inr ⟨n0, p0, Or.inl h1, h2, h3, h4, h5, h6, h7, fun n' p' q => ?_⟩⟩
      · unfold f_X12_keepRing
        by_cases d : n = n0
        · simp (disch := omega) only [k_let, Option.bind_some, ↓reduceIte, eq_self, true_or, or_true, n01_0, n01_1, kb_or, kb_0T, kb_0F, vn_0, vn_1, vn_k, nl_0, nl_1, nl_2, nl_3, nl_4, nl_5, nl_6, nl_7, nl_8, nl_9, nl_10, nl_11, nl_12, nl_13, nl_14, nl_15, nl_16, nl_20, nl_21, nl_22, nl_23, nl_24, nl_25, nl_26, nl_27, nl_28, nl_29, nl_30, nl_31, nl_32, nl_40, nl_41, nl_42, nl_43, nl_45, nl_47, nl_48, nl_50, nl_57, nl_59, nl_60, nl_61, nl_62, nl_63, nl_64, nl_91, nl_93, nl_94, nl_97, nl_98, nl_100, nl_110, nl_122, nl_130, nl_144, nl_160, nl_240, nl_241, nl_255, nl_256, nl_400, nl_800, nl_900, nl_999, nl_1000, nl_1001, nl_1024, nl_1103, nl_1928, nl_4321, nl_5560, nl_12345, nl_1000000, nl_1000003, nl_252645135, nl_858993459, nl_1431655765, nl_1000000000, nI_add, pk_mul, n_sub, n_neg, n_cl, leT, leF, ltT, ltF, eqT, eqF, kbT, s_II, s_In, s_IJ, s_IA, s_IL, s_IR, s_IC, s_JI, s_JJ, s_Jn, s_JA, s_JL, s_JR, s_JC, s_AI, s_AJ, s_AA, s_An, s_AL, s_AR, s_AC, s_LI, s_LJ, s_LA, s_LL, s_Ln, s_LR, s_LC, h5, h6, f_X12_keepRing_66]
        · simp (disch := omega) only [k_let, Option.bind_some, ↓reduceIte, eq_self, true_or, or_true, n01_0, n01_1, kb_or, kb_0T, kb_0F, vn_0, vn_1, vn_k, nl_0, nl_1, nl_2, nl_3, nl_4, nl_5, nl_6, nl_7, nl_8, nl_9, nl_10, nl_11, nl_12, nl_13, nl_14, nl_15, nl_16, nl_20, nl_21, nl_22, nl_23, nl_24, nl_25, nl_26, nl_27, nl_28, nl_29, nl_30, nl_31, nl_32, nl_40, nl_41, nl_42, nl_43, nl_45, nl_47, nl_48, nl_50, nl_57, nl_59, nl_60, nl_61, nl_62, nl_63, nl_64, nl_91, nl_93, nl_94, nl_97, nl_98, nl_100, nl_110, nl_122, nl_130, nl_144, nl_160, nl_240, nl_241, nl_255, nl_256, nl_400, nl_800, nl_900, nl_999, nl_1000, nl_1001, nl_1024, nl_1103, nl_1928, nl_4321, nl_5560, nl_12345, nl_1000000, nl_1000003, nl_252645135, nl_858993459, nl_1431655765, nl_1000000000, nI_add, pk_mul, n_sub, n_neg, n_cl, leT, leF, ltT, ltF, eqT, eqF, kbT, s_II, s_In, s_IJ, s_IA, s_IL, s_IR, s_IC, s_JI, s_JJ, s_Jn, s_JA, s_JL, s_JR, s_JC, s_AI, s_AJ, s_AA, s_An, s_AL, s_AR, s_AC, s_LI, s_LJ, s_LA, s_LL, s_Ln, s_LR, s_LC, h5, h6, f_X12_keepRing_66]
      · rcases q with q | q
        · exact h8 n' p' q
        · obtain ⟨q1, q2⟩ := q
          subst q1
          rw [ps_congr q2]
          omega
