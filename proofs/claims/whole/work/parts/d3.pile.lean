/-! part d3: the reference's pile of signs that wait -/
abbrev Pi_ : Type := List (Nat × Nat)
def bn (op : Nat) : Nat := if 30 ≤ op then 0 else if op = 29 then 1 else if op = 28 then 2 else if op = 27 then 3 else if 24 ≤ op then 4 else if 22 ≤ op then 6 else 5
theorem e_binds {op : Nat} (h : op < 100) (S : St) : f_X12_binds (nI op) S = some (nI (bn op), S) := by
  unfold f_X12_binds f_X12_binds_62 bn
  by_cases c0 : 30 ≤ op
  · rw [if_pos c0]; simp (disch := omega) only [k_let, Option.bind_some, ↓reduceIte, eq_self, true_or, or_true, n01_0, n01_1, kb_or, kb_0T, kb_0F, vn_0, vn_1, vn_k, nl_0, nl_1, nl_2, nl_3, nl_4, nl_5, nl_6, nl_7, nl_8, nl_9, nl_10, nl_11, nl_12, nl_13, nl_14, nl_15, nl_16, nl_20, nl_21, nl_22, nl_23, nl_24, nl_25, nl_26, nl_27, nl_28, nl_29, nl_30, nl_31, nl_32, nl_40, nl_41, nl_42, nl_43, nl_45, nl_47, nl_48, nl_50, nl_57, nl_59, nl_60, nl_61, nl_62, nl_63, nl_64, nl_91, nl_93, nl_94, nl_97, nl_98, nl_100, nl_110, nl_122, nl_130, nl_144, nl_160, nl_240, nl_241, nl_255, nl_256, nl_400, nl_800, nl_900, nl_999, nl_1000, nl_1001, nl_1024, nl_1103, nl_1928, nl_4321, nl_5560, nl_12345, nl_1000000, nl_1000003, nl_252645135, nl_858993459, nl_1431655765, nl_1000000000, nI_add, pk_mul, n_sub, n_neg, n_cl, leT, leF, ltT, ltF, eqT, eqF, kbT, s_II, s_In, s_IJ, s_IA, s_IL, s_IR, s_IC, s_JI, s_JJ, s_Jn, s_JA, s_JL, s_JR, s_JC, s_AI, s_AJ, s_AA, s_An, s_AL, s_AR, s_AC, s_LI, s_LJ, s_LA, s_LL, s_Ln, s_LR, s_LC]
  · rw [if_neg c0]
    by_cases c1 : op = 29
    · rw [if_pos c1]; simp (disch := omega) only [k_let, Option.bind_some, ↓reduceIte, eq_self, true_or, or_true, n01_0, n01_1, kb_or, kb_0T, kb_0F, vn_0, vn_1, vn_k, nl_0, nl_1, nl_2, nl_3, nl_4, nl_5, nl_6, nl_7, nl_8, nl_9, nl_10, nl_11, nl_12, nl_13, nl_14, nl_15, nl_16, nl_20, nl_21, nl_22, nl_23, nl_24, nl_25, nl_26, nl_27, nl_28, nl_29, nl_30, nl_31, nl_32, nl_40, nl_41, nl_42, nl_43, nl_45, nl_47, nl_48, nl_50, nl_57, nl_59, nl_60, nl_61, nl_62, nl_63, nl_64, nl_91, nl_93, nl_94, nl_97, nl_98, nl_100, nl_110, nl_122, nl_130, nl_144, nl_160, nl_240, nl_241, nl_255, nl_256, nl_400, nl_800, nl_900, nl_999, nl_1000, nl_1001, nl_1024, nl_1103, nl_1928, nl_4321, nl_5560, nl_12345, nl_1000000, nl_1000003, nl_252645135, nl_858993459, nl_1431655765, nl_1000000000, nI_add, pk_mul, n_sub, n_neg, n_cl, leT, leF, ltT, ltF, eqT, eqF, kbT, s_II, s_In, s_IJ, s_IA, s_IL, s_IR, s_IC, s_JI, s_JJ, s_Jn, s_JA, s_JL, s_JR, s_JC, s_AI, s_AJ, s_AA, s_An, s_AL, s_AR, s_AC, s_LI, s_LJ, s_LA, s_LL, s_Ln, s_LR, s_LC]
    · rw [if_neg c1]
      by_cases c2 : op = 28
      · rw [if_pos c2]; simp (disch := omega) only [k_let, Option.bind_some, ↓reduceIte, eq_self, true_or, or_true, n01_0, n01_1, kb_or, kb_0T, kb_0F, vn_0, vn_1, vn_k, nl_0, nl_1, nl_2, nl_3, nl_4, nl_5, nl_6, nl_7, nl_8, nl_9, nl_10, nl_11, nl_12, nl_13, nl_14, nl_15, nl_16, nl_20, nl_21, nl_22, nl_23, nl_24, nl_25, nl_26, nl_27, nl_28, nl_29, nl_30, nl_31, nl_32, nl_40, nl_41, nl_42, nl_43, nl_45, nl_47, nl_48, nl_50, nl_57, nl_59, nl_60, nl_61, nl_62, nl_63, nl_64, nl_91, nl_93, nl_94, nl_97, nl_98, nl_100, nl_110, nl_122, nl_130, nl_144, nl_160, nl_240, nl_241, nl_255, nl_256, nl_400, nl_800, nl_900, nl_999, nl_1000, nl_1001, nl_1024, nl_1103, nl_1928, nl_4321, nl_5560, nl_12345, nl_1000000, nl_1000003, nl_252645135, nl_858993459, nl_1431655765, nl_1000000000, nI_add, pk_mul, n_sub, n_neg, n_cl, leT, leF, ltT, ltF, eqT, eqF, kbT, s_II, s_In, s_IJ, s_IA, s_IL, s_IR, s_IC, s_JI, s_JJ, s_Jn, s_JA, s_JL, s_JR, s_JC, s_AI, s_AJ, s_AA, s_An, s_AL, s_AR, s_AC, s_LI, s_LJ, s_LA, s_LL, s_Ln, s_LR, s_LC]
      · rw [if_neg c2]
        by_cases c3 : op = 27
        · rw [if_pos c3]; simp (disch := omega) only [k_let, Option.bind_some, ↓reduceIte, eq_self, true_or, or_true, n01_0, n01_1, kb_or, kb_0T, kb_0F, vn_0, vn_1, vn_k, nl_0, nl_1, nl_2, nl_3, nl_4, nl_5, nl_6, nl_7, nl_8, nl_9, nl_10, nl_11, nl_12, nl_13, nl_14, nl_15, nl_16, nl_20, nl_21, nl_22, nl_23, nl_24, nl_25, nl_26, nl_27, nl_28, nl_29, nl_30, nl_31, nl_32, nl_40, nl_41, nl_42, nl_43, nl_45, nl_47, nl_48, nl_50, nl_57, nl_59, nl_60, nl_61, nl_62, nl_63, nl_64, nl_91, nl_93, nl_94, nl_97, nl_98, nl_100, nl_110, nl_122, nl_130, nl_144, nl_160, nl_240, nl_241, nl_255, nl_256, nl_400, nl_800, nl_900, nl_999, nl_1000, nl_1001, nl_1024, nl_1103, nl_1928, nl_4321, nl_5560, nl_12345, nl_1000000, nl_1000003, nl_252645135, nl_858993459, nl_1431655765, nl_1000000000, nI_add, pk_mul, n_sub, n_neg, n_cl, leT, leF, ltT, ltF, eqT, eqF, kbT, s_II, s_In, s_IJ, s_IA, s_IL, s_IR, s_IC, s_JI, s_JJ, s_Jn, s_JA, s_JL, s_JR, s_JC, s_AI, s_AJ, s_AA, s_An, s_AL, s_AR, s_AC, s_LI, s_LJ, s_LA, s_LL, s_Ln, s_LR, s_LC]
        · rw [if_neg c3]
          by_cases c4 : 24 ≤ op
          · rw [if_pos c4]; simp (disch := omega) only [k_let, Option.bind_some, ↓reduceIte, eq_self, true_or, or_true, n01_0, n01_1, kb_or, kb_0T, kb_0F, vn_0, vn_1, vn_k, nl_0, nl_1, nl_2, nl_3, nl_4, nl_5, nl_6, nl_7, nl_8, nl_9, nl_10, nl_11, nl_12, nl_13, nl_14, nl_15, nl_16, nl_20, nl_21, nl_22, nl_23, nl_24, nl_25, nl_26, nl_27, nl_28, nl_29, nl_30, nl_31, nl_32, nl_40, nl_41, nl_42, nl_43, nl_45, nl_47, nl_48, nl_50, nl_57, nl_59, nl_60, nl_61, nl_62, nl_63, nl_64, nl_91, nl_93, nl_94, nl_97, nl_98, nl_100, nl_110, nl_122, nl_130, nl_144, nl_160, nl_240, nl_241, nl_255, nl_256, nl_400, nl_800, nl_900, nl_999, nl_1000, nl_1001, nl_1024, nl_1103, nl_1928, nl_4321, nl_5560, nl_12345, nl_1000000, nl_1000003, nl_252645135, nl_858993459, nl_1431655765, nl_1000000000, nI_add, pk_mul, n_sub, n_neg, n_cl, leT, leF, ltT, ltF, eqT, eqF, kbT, s_II, s_In, s_IJ, s_IA, s_IL, s_IR, s_IC, s_JI, s_JJ, s_Jn, s_JA, s_JL, s_JR, s_JC, s_AI, s_AJ, s_AA, s_An, s_AL, s_AR, s_AC, s_LI, s_LJ, s_LA, s_LL, s_Ln, s_LR, s_LC]
          · rw [if_neg c4]
            by_cases c5 : 22 ≤ op
            · rw [if_pos c5]; simp (disch := omega) only [k_let, Option.bind_some, ↓reduceIte, eq_self, true_or, or_true, n01_0, n01_1, kb_or, kb_0T, kb_0F, vn_0, vn_1, vn_k, nl_0, nl_1, nl_2, nl_3, nl_4, nl_5, nl_6, nl_7, nl_8, nl_9, nl_10, nl_11, nl_12, nl_13, nl_14, nl_15, nl_16, nl_20, nl_21, nl_22, nl_23, nl_24, nl_25, nl_26, nl_27, nl_28, nl_29, nl_30, nl_31, nl_32, nl_40, nl_41, nl_42, nl_43, nl_45, nl_47, nl_48, nl_50, nl_57, nl_59, nl_60, nl_61, nl_62, nl_63, nl_64, nl_91, nl_93, nl_94, nl_97, nl_98, nl_100, nl_110, nl_122, nl_130, nl_144, nl_160, nl_240, nl_241, nl_255, nl_256, nl_400, nl_800, nl_900, nl_999, nl_1000, nl_1001, nl_1024, nl_1103, nl_1928, nl_4321, nl_5560, nl_12345, nl_1000000, nl_1000003, nl_252645135, nl_858993459, nl_1431655765, nl_1000000000, nI_add, pk_mul, n_sub, n_neg, n_cl, leT, leF, ltT, ltF, eqT, eqF, kbT, s_II, s_In, s_IJ, s_IA, s_IL, s_IR, s_IC, s_JI, s_JJ, s_Jn, s_JA, s_JL, s_JR, s_JC, s_AI, s_AJ, s_AA, s_An, s_AL, s_AR, s_AC, s_LI, s_LJ, s_LA, s_LL, s_Ln, s_LR, s_LC]
            · rw [if_neg c5]; simp (disch := omega) only [k_let, Option.bind_some, ↓reduceIte, eq_self, true_or, or_true, n01_0, n01_1, kb_or, kb_0T, kb_0F, vn_0, vn_1, vn_k, nl_0, nl_1, nl_2, nl_3, nl_4, nl_5, nl_6, nl_7, nl_8, nl_9, nl_10, nl_11, nl_12, nl_13, nl_14, nl_15, nl_16, nl_20, nl_21, nl_22, nl_23, nl_24, nl_25, nl_26, nl_27, nl_28, nl_29, nl_30, nl_31, nl_32, nl_40, nl_41, nl_42, nl_43, nl_45, nl_47, nl_48, nl_50, nl_57, nl_59, nl_60, nl_61, nl_62, nl_63, nl_64, nl_91, nl_93, nl_94, nl_97, nl_98, nl_100, nl_110, nl_122, nl_130, nl_144, nl_160, nl_240, nl_241, nl_255, nl_256, nl_400, nl_800, nl_900, nl_999, nl_1000, nl_1001, nl_1024, nl_1103, nl_1928, nl_4321, nl_5560, nl_12345, nl_1000000, nl_1000003, nl_252645135, nl_858993459, nl_1431655765, nl_1000000000, nI_add, pk_mul, n_sub, n_neg, n_cl, leT, leF, ltT, ltF, eqT, eqF, kbT, s_II, s_In, s_IJ, s_IA, s_IL, s_IR, s_IC, s_JI, s_JJ, s_Jn, s_JA, s_JL, s_JR, s_JC, s_AI, s_AJ, s_AA, s_An, s_AL, s_AR, s_AC, s_LI, s_LJ, s_LA, s_LL, s_Ln, s_LR, s_LC]
theorem bn_le (op : Nat) : bn op ≤ 6 := by
  unfold bn
  (repeat' split) <;> omega
def Fx (U : St) (p : Nat) : Nat × Int := dR (gA U 58 p) (gA U 59 p)
/-- the pile K stands in rows 60 and 61, its top first; and and or have their places in the code -/
def PLs (U : St) : Pi_ → Prop
  | [] => True
  | x :: K => gA U 60 K.length = nI x.1 ∧ gA U 61 K.length = nI x.2 ∧ (x.1 = 28 ∨ x.1 = 29 → gA U 58 x.2 = nI x.1) ∧ PLs U K
def Pk (c : Nat) (K : Pi_) : Prop := ∀ x, x ∈ K → 20 ≤ x.1 ∧ x.1 < 32 ∧ x.2 < 400 ∧ (x.1 = 28 ∨ x.1 = 29 → x.2 < c)
theorem Pk.mono {c c' : Nat} {K : Pi_} (h : Pk c K) (e : c ≤ c') : Pk c' K := fun x hx => ⟨(h x hx).1, (h x hx).2.1, (h x hx).2.2.1, fun q => Nat.lt_of_lt_of_le ((h x hx).2.2.2 q) e⟩
theorem Pk.tail {c : Nat} {x : Nat × Nat} {K : Pi_} (h : Pk c (x :: K)) : Pk c K := fun y hy => h y (List.mem_cons_of_mem _ hy)
theorem Pk.app {c : Nat} {P K : Pi_} (h : Pk c (P ++ K)) : Pk c K := fun y hy => h y (List.mem_append_right _ hy)
theorem Pk.cons {c : Nat} {x : Nat × Nat} {K : Pi_} (h : Pk c K) (h1 : 20 ≤ x.1 ∧ x.1 < 32 ∧ x.2 < 400 ∧ (x.1 = 28 ∨ x.1 = 29 → x.2 < c)) : Pk c (x :: K) := fun y hy => by
  rcases List.mem_cons.mp hy with q | q
  · rw [q]; exact h1
  · exact h y q
theorem PLs.congr {U T : St} {c : Nat} : ∀ {K : Pi_}, PLs U K → Pk c K → (∀ i, i < K.length → gA T 60 i = gA U 60 i ∧ gA T 61 i = gA U 61 i) → (∀ i, i < c → gA T 58 i = gA U 58 i) → PLs T K := by
  intro K
  induction K with
  | nil => intro _ _ _ _; trivial
  | cons x K ih =>
    intro h hp h1 h2
    obtain ⟨a1, a2, a3, a4⟩ := h
    have e := h1 K.length (Nat.lt_succ_self _)
    refine ⟨e.1.trans a1, e.2.trans a2, fun q => (h2 _ ((hp x List.mem_cons_self).2.2.2 q)).trans (a3 q), ih a4 hp.tail (fun i hi => h1 i (Nat.lt_succ_of_lt hi)) h2⟩
theorem PLs.app {U : St} : ∀ {P K : Pi_}, PLs U (P ++ K) → PLs U K := by
  intro P K
  induction P with
  | nil => intro h; exact h
  | cons x P ih => intro h; exact ih h.2.2.2
theorem PLs.drop {U : St} : ∀ (m : Nat) {K : Pi_}, PLs U K → PLs U (K.drop m) := by
  intro m
  induction m with
  | zero => intro K h; exact h
  | succ m ih =>
    intro K h
    cases K with
    | nil => exact h
    | cons x K => exact ih h.2.2.2
theorem e_emit {U : St} {c : Nat} (h : gI U 43 = nI c) (hc : c < 400) (x y : Int32) : ∃ T, f_X12_emit x y U = some T ∧ Fr [43] [] [58, 59] [] U T ∧ gI T 43 = nI (c + 1) ∧ (∀ p, Fx T p = if p = c then dR x y else Fx U p) ∧ (∀ p, p ≠ c → gA T 58 p = gA U 58 p) ∧ gA T 58 c = x := by
  refine ⟨sI (sA (sA U 58 c x) 59 c y) 43 (nI (c + 1)), ?_, (((Fr.refl U).sA rfl _ _).sA rfl _ _).sI rfl _, s_II _ _ _, fun p => ?_, fun p hp => ?_, ?_⟩
  · unfold f_X12_emit
    simp (disch := omega) only [k_let, Option.bind_some, ↓reduceIte, eq_self, true_or, or_true, n01_0, n01_1, kb_or, kb_0T, kb_0F, vn_0, vn_1, vn_k, nl_0, nl_1, nl_2, nl_3, nl_4, nl_5, nl_6, nl_7, nl_8, nl_9, nl_10, nl_11, nl_12, nl_13, nl_14, nl_15, nl_16, nl_20, nl_21, nl_22, nl_23, nl_24, nl_25, nl_26, nl_27, nl_28, nl_29, nl_30, nl_31, nl_32, nl_40, nl_41, nl_42, nl_43, nl_45, nl_47, nl_48, nl_50, nl_57, nl_59, nl_60, nl_61, nl_62, nl_63, nl_64, nl_91, nl_93, nl_94, nl_97, nl_98, nl_100, nl_110, nl_122, nl_130, nl_144, nl_160, nl_240, nl_241, nl_255, nl_256, nl_400, nl_800, nl_900, nl_999, nl_1000, nl_1001, nl_1024, nl_1103, nl_1928, nl_4321, nl_5560, nl_12345, nl_1000000, nl_1000003, nl_252645135, nl_858993459, nl_1431655765, nl_1000000000, nI_add, pk_mul, n_sub, n_neg, n_cl, leT, leF, ltT, ltF, eqT, eqF, kbT, s_II, s_In, s_IJ, s_IA, s_IL, s_IR, s_IC, s_JI, s_JJ, s_Jn, s_JA, s_JL, s_JR, s_JC, s_AI, s_AJ, s_AA, s_An, s_AL, s_AR, s_AC, s_LI, s_LJ, s_LA, s_LL, s_Ln, s_LR, s_LC, h]
  · unfold Fx
    simp (disch := omega) only [s_II, s_In, s_IJ, s_IA, s_IL, s_IR, s_IC, s_JI, s_JJ, s_Jn, s_JA, s_JL, s_JR, s_JC, s_AI, s_AJ, s_AA, s_An, s_AL, s_AR, s_AC, s_LI, s_LJ, s_LA, s_LL, s_Ln, s_LR, s_LC, u_a]
    by_cases q : p = c
    · rw [if_pos q, if_pos q, if_pos q]
    · rw [if_neg q, if_neg q, if_neg q]
  · simp (disch := omega) only [s_II, s_In, s_IJ, s_IA, s_IL, s_IR, s_IC, s_JI, s_JJ, s_Jn, s_JA, s_JL, s_JR, s_JC, s_AI, s_AJ, s_AA, s_An, s_AL, s_AR, s_AC, s_LI, s_LJ, s_LA, s_LL, s_Ln, s_LR, s_LC, u_a, if_neg hp]
  · simp (disch := omega) only [s_II, s_In, s_IJ, s_IA, s_IL, s_IR, s_IC, s_JI, s_JJ, s_Jn, s_JA, s_JL, s_JR, s_JC, s_AI, s_AJ, s_AA, s_An, s_AL, s_AR, s_AC, s_LI, s_LJ, s_LA, s_LL, s_Ln, s_LR, s_LC, u_a, ↓reduceIte]
theorem e_mpush {U : St} {k : Nat} (h : gI U 45 = nI k) (hk : k < 400) (x y : Int32) : ∃ T, f_X12_push x y U = some T ∧ Fr [45] [] [60, 61] [] U T ∧ gI T 45 = nI (k + 1) ∧ (∀ p, p ≠ k → gA T 60 p = gA U 60 p ∧ gA T 61 p = gA U 61 p) ∧ gA T 60 k = x ∧ gA T 61 k = y := by
  refine ⟨sI (sA (sA U 60 k x) 61 k y) 45 (nI (k + 1)), ?_, (((Fr.refl U).sA rfl _ _).sA rfl _ _).sI rfl _, s_II _ _ _, fun p hp => ?_, ?_, ?_⟩
  · unfold f_X12_push
    simp (disch := omega) only [k_let, Option.bind_some, ↓reduceIte, eq_self, true_or, or_true, n01_0, n01_1, kb_or, kb_0T, kb_0F, vn_0, vn_1, vn_k, nl_0, nl_1, nl_2, nl_3, nl_4, nl_5, nl_6, nl_7, nl_8, nl_9, nl_10, nl_11, nl_12, nl_13, nl_14, nl_15, nl_16, nl_20, nl_21, nl_22, nl_23, nl_24, nl_25, nl_26, nl_27, nl_28, nl_29, nl_30, nl_31, nl_32, nl_40, nl_41, nl_42, nl_43, nl_45, nl_47, nl_48, nl_50, nl_57, nl_59, nl_60, nl_61, nl_62, nl_63, nl_64, nl_91, nl_93, nl_94, nl_97, nl_98, nl_100, nl_110, nl_122, nl_130, nl_144, nl_160, nl_240, nl_241, nl_255, nl_256, nl_400, nl_800, nl_900, nl_999, nl_1000, nl_1001, nl_1024, nl_1103, nl_1928, nl_4321, nl_5560, nl_12345, nl_1000000, nl_1000003, nl_252645135, nl_858993459, nl_1431655765, nl_1000000000, nI_add, pk_mul, n_sub, n_neg, n_cl, leT, leF, ltT, ltF, eqT, eqF, kbT, s_II, s_In, s_IJ, s_IA, s_IL, s_IR, s_IC, s_JI, s_JJ, s_Jn, s_JA, s_JL, s_JR, s_JC, s_AI, s_AJ, s_AA, s_An, s_AL, s_AR, s_AC, s_LI, s_LJ, s_LA, s_LL, s_Ln, s_LR, s_LC, h]
  · simp (disch := omega) only [s_II, s_In, s_IJ, s_IA, s_IL, s_IR, s_IC, s_JI, s_JJ, s_Jn, s_JA, s_JL, s_JR, s_JC, s_AI, s_AJ, s_AA, s_An, s_AL, s_AR, s_AC, s_LI, s_LJ, s_LA, s_LL, s_Ln, s_LR, s_LC, u_a, if_neg hp, and_self]
  · simp (disch := omega) only [s_II, s_In, s_IJ, s_IA, s_IL, s_IR, s_IC, s_JI, s_JJ, s_Jn, s_JA, s_JL, s_JR, s_JC, s_AI, s_AJ, s_AA, s_An, s_AL, s_AR, s_AC, s_LI, s_LJ, s_LA, s_LL, s_Ln, s_LR, s_LC, u_a, ↓reduceIte]
  · simp (disch := omega) only [s_II, s_In, s_IJ, s_IA, s_IL, s_IR, s_IC, s_JI, s_JJ, s_Jn, s_JA, s_JL, s_JR, s_JC, s_AI, s_AJ, s_AA, s_An, s_AL, s_AR, s_AC, s_LI, s_LJ, s_LA, s_LL, s_Ln, s_LR, s_LC, u_a, ↓reduceIte]
/-- the code when P is taken off, its top first -/
def fin_ (F : Nat → Nat × Int) (c : Nat) : Pi_ → (Nat → Nat × Int) × Nat
  | [] => (F, c)
  | x :: P => if x.1 = 28 then fin_ (fun p => if p = x.2 then (11, (c : Int)) else F p) c P else if x.1 = 29 then fin_ (fun p => if p = x.2 then (10, (c : Int)) else F p) c P else fin_ (fun p => if p = c then dR (nI x.1) (nI 0) else F p) (c + 1) P
theorem l_settle : ∀ (P K : Pi_) (f : Nat) (U : St) (c L : Nat), L < 100 → (∀ x, x ∈ P → L ≤ bn x.1) → (∀ x K', K = x :: K' → bn x.1 < L) → gI U 43 = nI c → gI U 45 = nI (P ++ K).length → PLs U (P ++ K) → Pk c (P ++ K) → c + (P ++ K).length ≤ 400 → P.length < f →
    ∃ T, f_X12_settle_0 f (nI L) U = some T ∧ Fr [43, 45] [] [58, 59] [] U T ∧ gI T 43 = nI (fin_ (Fx U) c P).2 ∧ Fx T = (fin_ (Fx U) c P).1 ∧ gI T 45 = nI K.length ∧ PLs T K ∧ c ≤ (fin_ (Fx U) c P).2 ∧ (fin_ (Fx U) c P).2 ≤ c + P.length ∧ (∀ p, p < c → gA T 58 p = gA U 58 p) := by
  intro P
  induction P with
  | nil =>
    intro K f U c L hL h1 h2 h43 h45 hp hk hc hf
    obtain ⟨f, rfl⟩ : ∃ k, f = k + 1 := ⟨f - 1, by omega⟩
    refine ⟨U, ?_, Fr.refl U, h43, rfl, h45, hp, Nat.le_refl _, Nat.le_refl _, fun _ _ => rfl⟩
    rw [f_X12_settle_0]
    unfold f_X12_settle_101
    have h45 : gI U 45 = nI K.length := h45
    have hc : c + K.length ≤ 400 := hc
    cases K with
    | nil =>
      have h45 : gI U 45 = nI 0 := h45
      simp (disch := omega) only [k_let, Option.bind_some, ↓reduceIte, eq_self, true_or, or_true, n01_0, n01_1, kb_or, kb_0T, kb_0F, vn_0, vn_1, vn_k, nl_0, nl_1, nl_2, nl_3, nl_4, nl_5, nl_6, nl_7, nl_8, nl_9, nl_10, nl_11, nl_12, nl_13, nl_14, nl_15, nl_16, nl_20, nl_21, nl_22, nl_23, nl_24, nl_25, nl_26, nl_27, nl_28, nl_29, nl_30, nl_31, nl_32, nl_40, nl_41, nl_42, nl_43, nl_45, nl_47, nl_48, nl_50, nl_57, nl_59, nl_60, nl_61, nl_62, nl_63, nl_64, nl_91, nl_93, nl_94, nl_97, nl_98, nl_100, nl_110, nl_122, nl_130, nl_144, nl_160, nl_240, nl_241, nl_255, nl_256, nl_400, nl_800, nl_900, nl_999, nl_1000, nl_1001, nl_1024, nl_1103, nl_1928, nl_4321, nl_5560, nl_12345, nl_1000000, nl_1000003, nl_252645135, nl_858993459, nl_1431655765, nl_1000000000, nI_add, pk_mul, n_sub, n_neg, n_cl, leT, leF, ltT, ltF, eqT, eqF, kbT, s_II, s_In, s_IJ, s_IA, s_IL, s_IR, s_IC, s_JI, s_JJ, s_Jn, s_JA, s_JL, s_JR, s_JC, s_AI, s_AJ, s_AA, s_An, s_AL, s_AR, s_AC, s_LI, s_LJ, s_LA, s_LL, s_Ln, s_LR, s_LC, h45]
    | cons x K' =>
      have h45 : gI U 45 = nI (K'.length + 1) := h45
      have hc : c + (K'.length + 1) ≤ 400 := hc
      have hp : PLs U (x :: K') := hp
      have hk : Pk c (x :: K') := hk
      obtain ⟨k1, k2, k3, k4⟩ := hk x List.mem_cons_self
      have hb := h2 x K' rfl
      have hb6 := bn_le x.1
      simp (disch := omega) only [k_let, Option.bind_some, ↓reduceIte, eq_self, true_or, or_true, n01_0, n01_1, kb_or, kb_0T, kb_0F, vn_0, vn_1, vn_k, nl_0, nl_1, nl_2, nl_3, nl_4, nl_5, nl_6, nl_7, nl_8, nl_9, nl_10, nl_11, nl_12, nl_13, nl_14, nl_15, nl_16, nl_20, nl_21, nl_22, nl_23, nl_24, nl_25, nl_26, nl_27, nl_28, nl_29, nl_30, nl_31, nl_32, nl_40, nl_41, nl_42, nl_43, nl_45, nl_47, nl_48, nl_50, nl_57, nl_59, nl_60, nl_61, nl_62, nl_63, nl_64, nl_91, nl_93, nl_94, nl_97, nl_98, nl_100, nl_110, nl_122, nl_130, nl_144, nl_160, nl_240, nl_241, nl_255, nl_256, nl_400, nl_800, nl_900, nl_999, nl_1000, nl_1001, nl_1024, nl_1103, nl_1928, nl_4321, nl_5560, nl_12345, nl_1000000, nl_1000003, nl_252645135, nl_858993459, nl_1431655765, nl_1000000000, nI_add, pk_mul, n_sub, n_neg, n_cl, leT, leF, ltT, ltF, eqT, eqF, kbT, s_II, s_In, s_IJ, s_IA, s_IL, s_IR, s_IC, s_JI, s_JJ, s_Jn, s_JA, s_JL, s_JR, s_JC, s_AI, s_AJ, s_AA, s_An, s_AL, s_AR, s_AC, s_LI, s_LJ, s_LA, s_LL, s_Ln, s_LR, s_LC, h45, Nat.add_sub_cancel, hp.1]
      rw [e_binds (by omega)]
      simp (disch := omega) only [k_let, Option.bind_some, ↓reduceIte, eq_self, true_or, or_true, n01_0, n01_1, kb_or, kb_0T, kb_0F, vn_0, vn_1, vn_k, nl_0, nl_1, nl_2, nl_3, nl_4, nl_5, nl_6, nl_7, nl_8, nl_9, nl_10, nl_11, nl_12, nl_13, nl_14, nl_15, nl_16, nl_20, nl_21, nl_22, nl_23, nl_24, nl_25, nl_26, nl_27, nl_28, nl_29, nl_30, nl_31, nl_32, nl_40, nl_41, nl_42, nl_43, nl_45, nl_47, nl_48, nl_50, nl_57, nl_59, nl_60, nl_61, nl_62, nl_63, nl_64, nl_91, nl_93, nl_94, nl_97, nl_98, nl_100, nl_110, nl_122, nl_130, nl_144, nl_160, nl_240, nl_241, nl_255, nl_256, nl_400, nl_800, nl_900, nl_999, nl_1000, nl_1001, nl_1024, nl_1103, nl_1928, nl_4321, nl_5560, nl_12345, nl_1000000, nl_1000003, nl_252645135, nl_858993459, nl_1431655765, nl_1000000000, nI_add, pk_mul, n_sub, n_neg, n_cl, leT, leF, ltT, ltF, eqT, eqF, kbT, s_II, s_In, s_IJ, s_IA, s_IL, s_IR, s_IC, s_JI, s_JJ, s_Jn, s_JA, s_JL, s_JR, s_JC, s_AI, s_AJ, s_AA, s_An, s_AL, s_AR, s_AC, s_LI, s_LJ, s_LA, s_LL, s_Ln, s_LR, s_LC]
  | cons x P ih =>
    intro K f U c L hL h1 h2 h43 h45 hp hk hc hf
    obtain ⟨f, rfl⟩ : ∃ k, f = k + 1 := ⟨f - 1, by omega⟩
    have hf : P.length + 1 < f + 1 := hf
    have h45 : gI U 45 = nI ((P ++ K).length + 1) := h45
    have hc : c + ((P ++ K).length + 1) ≤ 400 := hc
    have hk : Pk c (x :: (P ++ K)) := hk
    obtain ⟨a1, a2, a3, a4⟩ : PLs U (x :: (P ++ K)) := hp
    obtain ⟨k1, k2, k3, k4⟩ := hk x List.mem_cons_self
    have hb := h1 x List.mem_cons_self
    have hb6 := bn_le x.1
    have hlen : (x :: P).length = P.length + 1 := rfl
    have f2 : Fr [43, 45] [] [58, 59] [] U (sI U 45 (nI (P ++ K).length)) := (Fr.refl U).sI rfl _
    generalize hU2 : sI U 45 (nI (P ++ K).length) = U2 at f2
    have u45 : gI U2 45 = nI (P ++ K).length := by rw [← hU2]; exact s_II _ _ _
    have u43 : gI U2 43 = nI c := by rw [← hU2]; exact (s_In (by decide)).trans h43
    have uA : ∀ k, gA U2 k = gA U k := fun k => by rw [← hU2]; rfl
    have step : f_X12_settle_0 (f + 1) (nI L) U = if x.1 = 28 ∨ x.1 = 29 then f_X12_settle_0 f (nI L) (sA U2 59 x.2 (nI c)) else (f_X12_emit (nI x.1) (nI 0) U2).bind fun q => f_X12_settle_0 f (nI L) q := by
      rw [f_X12_settle_0]
      unfold f_X12_settle_63
      simp (disch := omega) only [k_let, Option.bind_some, ↓reduceIte, eq_self, true_or, or_true, n01_0, n01_1, kb_or, kb_0T, kb_0F, vn_0, vn_1, vn_k, nl_0, nl_1, nl_2, nl_3, nl_4, nl_5, nl_6, nl_7, nl_8, nl_9, nl_10, nl_11, nl_12, nl_13, nl_14, nl_15, nl_16, nl_20, nl_21, nl_22, nl_23, nl_24, nl_25, nl_26, nl_27, nl_28, nl_29, nl_30, nl_31, nl_32, nl_40, nl_41, nl_42, nl_43, nl_45, nl_47, nl_48, nl_50, nl_57, nl_59, nl_60, nl_61, nl_62, nl_63, nl_64, nl_91, nl_93, nl_94, nl_97, nl_98, nl_100, nl_110, nl_122, nl_130, nl_144, nl_160, nl_240, nl_241, nl_255, nl_256, nl_400, nl_800, nl_900, nl_999, nl_1000, nl_1001, nl_1024, nl_1103, nl_1928, nl_4321, nl_5560, nl_12345, nl_1000000, nl_1000003, nl_252645135, nl_858993459, nl_1431655765, nl_1000000000, nI_add, pk_mul, n_sub, n_neg, n_cl, leT, leF, ltT, ltF, eqT, eqF, kbT, s_II, s_In, s_IJ, s_IA, s_IL, s_IR, s_IC, s_JI, s_JJ, s_Jn, s_JA, s_JL, s_JR, s_JC, s_AI, s_AJ, s_AA, s_An, s_AL, s_AR, s_AC, s_LI, s_LJ, s_LA, s_LL, s_Ln, s_LR, s_LC, h45, Nat.add_sub_cancel, a1]
      rw [e_binds (by omega)]
      simp (disch := omega) only [k_let, Option.bind_some, ↓reduceIte, eq_self, true_or, or_true, n01_0, n01_1, kb_or, kb_0T, kb_0F, vn_0, vn_1, vn_k, nl_0, nl_1, nl_2, nl_3, nl_4, nl_5, nl_6, nl_7, nl_8, nl_9, nl_10, nl_11, nl_12, nl_13, nl_14, nl_15, nl_16, nl_20, nl_21, nl_22, nl_23, nl_24, nl_25, nl_26, nl_27, nl_28, nl_29, nl_30, nl_31, nl_32, nl_40, nl_41, nl_42, nl_43, nl_45, nl_47, nl_48, nl_50, nl_57, nl_59, nl_60, nl_61, nl_62, nl_63, nl_64, nl_91, nl_93, nl_94, nl_97, nl_98, nl_100, nl_110, nl_122, nl_130, nl_144, nl_160, nl_240, nl_241, nl_255, nl_256, nl_400, nl_800, nl_900, nl_999, nl_1000, nl_1001, nl_1024, nl_1103, nl_1928, nl_4321, nl_5560, nl_12345, nl_1000000, nl_1000003, nl_252645135, nl_858993459, nl_1431655765, nl_1000000000, nI_add, pk_mul, n_sub, n_neg, n_cl, leT, leF, ltT, ltF, eqT, eqF, kbT, s_II, s_In, s_IJ, s_IA, s_IL, s_IR, s_IC, s_JI, s_JJ, s_Jn, s_JA, s_JL, s_JR, s_JC, s_AI, s_AJ, s_AA, s_An, s_AL, s_AR, s_AC, s_LI, s_LJ, s_LA, s_LL, s_Ln, s_LR, s_LC, h45, Nat.add_sub_cancel]
      rw [hU2]
      simp (disch := omega) only [k_let, Option.bind_some, ↓reduceIte, eq_self, true_or, or_true, n01_0, n01_1, kb_or, kb_0T, kb_0F, vn_0, vn_1, vn_k, nl_0, nl_1, nl_2, nl_3, nl_4, nl_5, nl_6, nl_7, nl_8, nl_9, nl_10, nl_11, nl_12, nl_13, nl_14, nl_15, nl_16, nl_20, nl_21, nl_22, nl_23, nl_24, nl_25, nl_26, nl_27, nl_28, nl_29, nl_30, nl_31, nl_32, nl_40, nl_41, nl_42, nl_43, nl_45, nl_47, nl_48, nl_50, nl_57, nl_59, nl_60, nl_61, nl_62, nl_63, nl_64, nl_91, nl_93, nl_94, nl_97, nl_98, nl_100, nl_110, nl_122, nl_130, nl_144, nl_160, nl_240, nl_241, nl_255, nl_256, nl_400, nl_800, nl_900, nl_999, nl_1000, nl_1001, nl_1024, nl_1103, nl_1928, nl_4321, nl_5560, nl_12345, nl_1000000, nl_1000003, nl_252645135, nl_858993459, nl_1431655765, nl_1000000000, nI_add, pk_mul, n_sub, n_neg, n_cl, leT, leF, ltT, ltF, eqT, eqF, kbT, s_II, s_In, s_IJ, s_IA, s_IL, s_IR, s_IC, s_JI, s_JJ, s_Jn, s_JA, s_JL, s_JR, s_JC, s_AI, s_AJ, s_AA, s_An, s_AL, s_AR, s_AC, s_LI, s_LJ, s_LA, s_LL, s_Ln, s_LR, s_LC, u45, uA, a1, a2, u43, h43]
      by_cases c28 : x.1 = 28
      · rw [if_pos (Or.inl c28), if_pos (by rw [c28])]
      · rw [if_neg (by rw [n_eq (by omega) (by decide)]; exact c28)]
        by_cases c29 : x.1 = 29
        · rw [if_pos (Or.inr c29), if_pos (by rw [c29])]
        · rw [if_neg (by rw [n_eq (by omega) (by decide)]; exact c29), if_neg (by omega)]
    rw [step]
    by_cases ao : x.1 = 28 ∨ x.1 = 29
    · rw [if_pos ao]
      have g58 := a3 ao
      have hat := k4 ao
      have f3 : Fr [43, 45] [] [58, 59] [] U (sA U2 59 x.2 (nI c)) := f2.sA rfl _ _
      have hFx : Fx (sA U2 59 x.2 (nI c)) = fun p => if p = x.2 then ((if x.1 = 28 then 11 else 10), (c : Int)) else Fx U p := by
        funext p
        unfold Fx
        simp (disch := omega) only [s_II, s_In, s_IJ, s_IA, s_IL, s_IR, s_IC, s_JI, s_JJ, s_Jn, s_JA, s_JL, s_JR, s_JC, s_AI, s_AJ, s_AA, s_An, s_AL, s_AR, s_AC, s_LI, s_LJ, s_LA, s_LL, s_Ln, s_LR, s_LC, uA, u_a]
        by_cases q : p = x.2
        · rw [if_pos q, if_pos q, q, g58]
          unfold dR
          rcases ao with r | r
          · rw [r, if_neg (by decide), if_neg (by decide), if_pos rfl, if_pos rfl, n_ti (by omega)]
          · rw [r, if_neg (by decide), if_neg (by decide), if_neg (by decide), if_pos rfl, if_neg (by decide), n_ti (by omega)]
        · rw [if_neg q, if_neg q]
      obtain ⟨T, e1, e2, e3, e4, e5, e6, e7, e8, e9⟩ := ih K f (sA U2 59 x.2 (nI c)) c L hL (fun y hy => h1 y (List.mem_cons_of_mem _ hy)) h2 u43 u45 (a4.congr (c := c) hk.tail (fun i _ => by simp (disch := omega) only [s_II, s_In, s_IJ, s_IA, s_IL, s_IR, s_IC, s_JI, s_JJ, s_Jn, s_JA, s_JL, s_JR, s_JC, s_AI, s_AJ, s_AA, s_An, s_AL, s_AR, s_AC, s_LI, s_LJ, s_LA, s_LL, s_Ln, s_LR, s_LC, uA, and_self]) (fun i _ => by simp (disch := omega) only [s_II, s_In, s_IJ, s_IA, s_IL, s_IR, s_IC, s_JI, s_JJ, s_Jn, s_JA, s_JL, s_JR, s_JC, s_AI, s_AJ, s_AA, s_An, s_AL, s_AR, s_AC, s_LI, s_LJ, s_LA, s_LL, s_Ln, s_LR, s_LC, uA])) hk.tail (by omega) (by omega)
      have hfin : fin_ (Fx U) c (x :: P) = fin_ (Fx (sA U2 59 x.2 (nI c))) c P := by
        rw [hFx]
        show (if x.1 = 28 then _ else if x.1 = 29 then _ else _) = _
        by_cases c28 : x.1 = 28
        · rw [if_pos c28]
          simp only [if_pos c28]
        · rw [if_neg c28, if_pos (by omega)]
          simp only [if_neg c28]
      rw [hfin]
      refine ⟨T, e1, f3.trans e2, e3, e4, e5, e6, e7, by omega, fun p hp => ?_⟩
      rw [e9 p hp]
      simp (disch := omega) only [s_II, s_In, s_IJ, s_IA, s_IL, s_IR, s_IC, s_JI, s_JJ, s_Jn, s_JA, s_JL, s_JR, s_JC, s_AI, s_AJ, s_AA, s_An, s_AL, s_AR, s_AC, s_LI, s_LJ, s_LA, s_LL, s_Ln, s_LR, s_LC, uA]
    · rw [if_neg ao]
      obtain ⟨V, g1, g2, g3, g4, g5, g6⟩ := e_emit (U := U2) u43 (by omega) (nI x.1) (nI 0)
      rw [g1]
      simp only [Option.bind_some]
      have f3 : Fr [43, 45] [] [58, 59] [] U V := f2.trans (g2.mono rfl rfl rfl rfl)
      have hFx : Fx V = fun p => if p = c then dR (nI x.1) (nI 0) else Fx U p := by
        funext p
        rw [g4 p]
        unfold Fx
        simp only [uA]
      obtain ⟨T, e1, e2, e3, e4, e5, e6, e7, e8, e9⟩ := ih K f V (c + 1) L hL (fun y hy => h1 y (List.mem_cons_of_mem _ hy)) h2 g3 ((g2.I rfl).trans u45) (a4.congr (c := c) hk.tail (fun i _ => by rw [g2.A rfl, g2.A rfl, uA, uA]; exact ⟨rfl, rfl⟩) (fun i hi => by rw [g5 i (by omega), uA])) (hk.tail.mono (by omega)) (by omega) (by omega)
      have hfin : fin_ (Fx U) c (x :: P) = fin_ (Fx V) (c + 1) P := by
        rw [hFx]
        show (if x.1 = 28 then _ else if x.1 = 29 then _ else _) = _
        rw [if_neg (by omega), if_neg (by omega)]
      rw [hfin]
      refine ⟨T, e1, f3.trans e2, e3, e4, e5, e6, by omega, by omega, fun p hp => ?_⟩
      rw [e9 p (by omega), g5 p (by omega), uA]
theorem pl_split (L : Nat) : ∀ K : Pi_, ∃ P K', K = P ++ K' ∧ (∀ x, x ∈ P → L ≤ bn x.1) ∧ ∀ x K'', K' = x :: K'' → bn x.1 < L := by
  intro K
  induction K with
  | nil => exact ⟨[], [], rfl, fun x hx => absurd hx List.not_mem_nil, fun x K h => by cases h⟩
  | cons y K ih =>
    by_cases c : L ≤ bn y.1
    · obtain ⟨P, K', e, h1, h2⟩ := ih
      refine ⟨y :: P, K', by rw [e]; rfl, fun x hx => ?_, h2⟩
      rcases List.mem_cons.mp hx with q | q
      · rw [q]; exact c
      · exact h1 x q
    · refine ⟨[], y :: K, rfl, fun x hx => absurd hx List.not_mem_nil, fun x K h => ?_⟩
      cases h
      omega
/-- the innermost bracket of a pile: 30 round, 31 square, 0 none -/
def inn : Pi_ → Nat
  | [] => 0
  | x :: K => if 30 ≤ x.1 then x.1 else inn K
def innI (K : Pi_) : Int32 := if inn K = 0 then iZ (-1) else nI (inn K)
theorem l_inner {U : St} {K : Pi_} {c : Nat} (hp : PLs U K) (hk : Pk c K) (h45 : gI U 45 = nI K.length) (hl : K.length ≤ 400) : ∀ (m f : Nat), m ≤ K.length → m < f → f_X12_inner_4 f (innI (K.drop m)) (nI (K.length - m)) U = some (innI K, U) := by
  intro m
  induction m with
  | zero =>
    intro f hm hf
    obtain ⟨f, rfl⟩ : ∃ k, f = k + 1 := ⟨f - 1, by omega⟩
    rw [f_X12_inner_4, h45, Nat.sub_zero, if_pos (by rw [n_le (by omega) (by omega)]; omega)]
    rfl
  | succ m ih =>
    intro f hm hf
    obtain ⟨f, rfl⟩ : ∃ k, f = k + 1 := ⟨f - 1, by omega⟩
    have hd : ∃ x, K.drop m = x :: K.drop (m + 1) := ⟨K[m], by rw [List.drop_eq_getElem_cons (by omega)]⟩
    obtain ⟨x, hx⟩ := hd
    have hlen : (K.drop (m + 1)).length = K.length - (m + 1) := List.length_drop
    have hp' := hp.drop m
    rw [hx] at hp'
    obtain ⟨a1, -, -, -⟩ := hp'
    rw [hlen] at a1
    obtain ⟨k1, k2, -, -⟩ := hk x (List.mem_of_mem_drop (i := m) (by rw [hx]; exact List.mem_cons_self))
    have ih' := ih f (by omega) (by omega)
    rw [hx] at ih'
    rw [f_X12_inner_4]
    unfold f_X12_inner_33
    simp (disch := omega) only [k_let, Option.bind_some, ↓reduceIte, eq_self, true_or, or_true, n01_0, n01_1, kb_or, kb_0T, kb_0F, vn_0, vn_1, vn_k, nl_0, nl_1, nl_2, nl_3, nl_4, nl_5, nl_6, nl_7, nl_8, nl_9, nl_10, nl_11, nl_12, nl_13, nl_14, nl_15, nl_16, nl_20, nl_21, nl_22, nl_23, nl_24, nl_25, nl_26, nl_27, nl_28, nl_29, nl_30, nl_31, nl_32, nl_40, nl_41, nl_42, nl_43, nl_45, nl_47, nl_48, nl_50, nl_57, nl_59, nl_60, nl_61, nl_62, nl_63, nl_64, nl_91, nl_93, nl_94, nl_97, nl_98, nl_100, nl_110, nl_122, nl_130, nl_144, nl_160, nl_240, nl_241, nl_255, nl_256, nl_400, nl_800, nl_900, nl_999, nl_1000, nl_1001, nl_1024, nl_1103, nl_1928, nl_4321, nl_5560, nl_12345, nl_1000000, nl_1000003, nl_252645135, nl_858993459, nl_1431655765, nl_1000000000, nI_add, pk_mul, n_sub, n_neg, n_cl, leT, leF, ltT, ltF, eqT, eqF, kbT, s_II, s_In, s_IJ, s_IA, s_IL, s_IR, s_IC, s_JI, s_JJ, s_Jn, s_JA, s_JL, s_JR, s_JC, s_AI, s_AJ, s_AA, s_An, s_AL, s_AR, s_AC, s_LI, s_LJ, s_LA, s_LL, s_Ln, s_LR, s_LC, h45, a1]
    have es : K.length - (m + 1) + 1 = K.length - m := by omega
    rw [es]
    by_cases c30 : 30 ≤ x.1
    · have e : innI (x :: K.drop (m + 1)) = nI x.1 := by
        unfold innI
        have : inn (x :: K.drop (m + 1)) = x.1 := if_pos c30
        rw [this, if_neg (by omega)]
      rw [e] at ih'
      rw [if_neg (by rw [n_lt (by omega) (by omega)]; omega)]
      exact ih'
    · have e : innI (x :: K.drop (m + 1)) = innI (K.drop (m + 1)) := by
        unfold innI
        have : inn (x :: K.drop (m + 1)) = inn (K.drop (m + 1)) := if_neg c30
        rw [this]
      rw [e] at ih'
      rw [if_pos (by rw [n_lt (by omega) (by omega)]; omega)]
      exact ih'
theorem e_inner {U : St} {K : Pi_} {c : Nat} (hp : PLs U K) (hk : Pk c K) (h45 : gI U 45 = nI K.length) (hl : K.length ≤ 400) : f_X12_inner U = some (innI K, U) := by
  have F1 : 1000 < FU := FU_ge (by decide)
  have := l_inner hp hk h45 hl K.length FU (Nat.le_refl _) (by omega)
  rw [List.drop_length, Nat.sub_self] at this
  exact this
def icp : Pi_ → Bool
  | [] => false
  | x :: K => if x.1 ≤ 23 then icp K else decide (x.1 ≤ 26)
theorem l_icp {U : St} {c : Nat} : ∀ (K : Pi_) (f : Nat), PLs U K → Pk c K → K.length ≤ 400 → K.length < f → f_X12_isCompared_7 f (iZ ((K.length : Int) - 1)) U = some (kB (icp K), U) := by
  intro K
  induction K with
  | nil =>
    intro f _ _ _ hf
    obtain ⟨f, rfl⟩ : ∃ k, f = k + 1 := ⟨f - 1, by omega⟩
    rfl
  | cons x K ih =>
    intro f hp hk hl hf
    obtain ⟨f, rfl⟩ : ∃ k, f = k + 1 := ⟨f - 1, by omega⟩
    obtain ⟨a1, a2, a3, a4⟩ := hp
    obtain ⟨k1, k2, -, -⟩ := hk x List.mem_cons_self
    have hl : K.length + 1 ≤ 400 := hl
    have hf : K.length + 1 < f + 1 := hf
    have e : (((x :: K).length : Nat) : Int) - 1 = (K.length : Int) := by show ((K.length + 1 : Nat) : Int) - 1 = _; omega
    rw [e, ← n_Z, f_X12_isCompared_7]
    unfold f_X12_isCompared_36 f_X12_isCompared_63 f_X12_isCompared_64
    simp (disch := omega) only [k_let, Option.bind_some, ↓reduceIte, eq_self, true_or, or_true, n01_0, n01_1, kb_or, kb_0T, kb_0F, vn_0, vn_1, vn_k, nl_0, nl_1, nl_2, nl_3, nl_4, nl_5, nl_6, nl_7, nl_8, nl_9, nl_10, nl_11, nl_12, nl_13, nl_14, nl_15, nl_16, nl_20, nl_21, nl_22, nl_23, nl_24, nl_25, nl_26, nl_27, nl_28, nl_29, nl_30, nl_31, nl_32, nl_40, nl_41, nl_42, nl_43, nl_45, nl_47, nl_48, nl_50, nl_57, nl_59, nl_60, nl_61, nl_62, nl_63, nl_64, nl_91, nl_93, nl_94, nl_97, nl_98, nl_100, nl_110, nl_122, nl_130, nl_144, nl_160, nl_240, nl_241, nl_255, nl_256, nl_400, nl_800, nl_900, nl_999, nl_1000, nl_1001, nl_1024, nl_1103, nl_1928, nl_4321, nl_5560, nl_12345, nl_1000000, nl_1000003, nl_252645135, nl_858993459, nl_1431655765, nl_1000000000, nI_add, pk_mul, n_sub, n_neg, n_cl, leT, leF, ltT, ltF, eqT, eqF, kbT, s_II, s_In, s_IJ, s_IA, s_IL, s_IR, s_IC, s_JI, s_JJ, s_Jn, s_JA, s_JL, s_JR, s_JC, s_AI, s_AJ, s_AA, s_An, s_AL, s_AR, s_AC, s_LI, s_LJ, s_LA, s_LL, s_Ln, s_LR, s_LC, a1]
    rw [show (20 : Int64) = lZ 20 from rfl, show (23 : Int64) = lZ 23 from rfl, show (24 : Int64) = lZ 24 from rfl, show (26 : Int64) = lZ 26 from rfl, e_in _ 20 23 _ (by decide) (by decide) (by decide) (by decide), n_ti (by omega)]
    show _ = some (kB (if x.1 ≤ 23 then icp K else decide (x.1 ≤ 26)), U)
    by_cases c1 : x.1 ≤ 23
    · rw [decide_eq_true (by omega), if_pos c1]
      simp (disch := omega) only [k_let, Option.bind_some, ↓reduceIte, eq_self, true_or, or_true, n01_0, n01_1, kb_or, kb_0T, kb_0F, vn_0, vn_1, vn_k, nl_0, nl_1, nl_2, nl_3, nl_4, nl_5, nl_6, nl_7, nl_8, nl_9, nl_10, nl_11, nl_12, nl_13, nl_14, nl_15, nl_16, nl_20, nl_21, nl_22, nl_23, nl_24, nl_25, nl_26, nl_27, nl_28, nl_29, nl_30, nl_31, nl_32, nl_40, nl_41, nl_42, nl_43, nl_45, nl_47, nl_48, nl_50, nl_57, nl_59, nl_60, nl_61, nl_62, nl_63, nl_64, nl_91, nl_93, nl_94, nl_97, nl_98, nl_100, nl_110, nl_122, nl_130, nl_144, nl_160, nl_240, nl_241, nl_255, nl_256, nl_400, nl_800, nl_900, nl_999, nl_1000, nl_1001, nl_1024, nl_1103, nl_1928, nl_4321, nl_5560, nl_12345, nl_1000000, nl_1000003, nl_252645135, nl_858993459, nl_1431655765, nl_1000000000, nI_add, pk_mul, n_sub, n_neg, n_cl, leT, leF, ltT, ltF, eqT, eqF, kbT, s_II, s_In, s_IJ, s_IA, s_IL, s_IR, s_IC, s_JI, s_JJ, s_Jn, s_JA, s_JL, s_JR, s_JC, s_AI, s_AJ, s_AA, s_An, s_AL, s_AR, s_AC, s_LI, s_LJ, s_LA, s_LL, s_Ln, s_LR, s_LC, kB_t]
      have ihh := ih f a4 hk.tail (by omega) (by omega)
      rw [z_na]
      exact ihh
    · rw [decide_eq_false (by omega), if_neg c1]
      simp (disch := omega) only [k_let, Option.bind_some, ↓reduceIte, eq_self, true_or, or_true, n01_0, n01_1, kb_or, kb_0T, kb_0F, vn_0, vn_1, vn_k, nl_0, nl_1, nl_2, nl_3, nl_4, nl_5, nl_6, nl_7, nl_8, nl_9, nl_10, nl_11, nl_12, nl_13, nl_14, nl_15, nl_16, nl_20, nl_21, nl_22, nl_23, nl_24, nl_25, nl_26, nl_27, nl_28, nl_29, nl_30, nl_31, nl_32, nl_40, nl_41, nl_42, nl_43, nl_45, nl_47, nl_48, nl_50, nl_57, nl_59, nl_60, nl_61, nl_62, nl_63, nl_64, nl_91, nl_93, nl_94, nl_97, nl_98, nl_100, nl_110, nl_122, nl_130, nl_144, nl_160, nl_240, nl_241, nl_255, nl_256, nl_400, nl_800, nl_900, nl_999, nl_1000, nl_1001, nl_1024, nl_1103, nl_1928, nl_4321, nl_5560, nl_12345, nl_1000000, nl_1000003, nl_252645135, nl_858993459, nl_1431655765, nl_1000000000, nI_add, pk_mul, n_sub, n_neg, n_cl, leT, leF, ltT, ltF, eqT, eqF, kbT, s_II, s_In, s_IJ, s_IA, s_IL, s_IR, s_IC, s_JI, s_JJ, s_Jn, s_JA, s_JL, s_JR, s_JC, s_AI, s_AJ, s_AA, s_An, s_AL, s_AR, s_AC, s_LI, s_LJ, s_LA, s_LL, s_Ln, s_LR, s_LC, kB_f]
      rw [e_in _ 24 26 _ (by decide) (by decide) (by decide) (by decide), a1, n_ti (by omega)]
      by_cases c2 : x.1 ≤ 26
      · rw [decide_eq_true (by omega), decide_eq_true c2]
        simp (disch := omega) only [k_let, Option.bind_some, ↓reduceIte, eq_self, true_or, or_true, n01_0, n01_1, kb_or, kb_0T, kb_0F, vn_0, vn_1, vn_k, nl_0, nl_1, nl_2, nl_3, nl_4, nl_5, nl_6, nl_7, nl_8, nl_9, nl_10, nl_11, nl_12, nl_13, nl_14, nl_15, nl_16, nl_20, nl_21, nl_22, nl_23, nl_24, nl_25, nl_26, nl_27, nl_28, nl_29, nl_30, nl_31, nl_32, nl_40, nl_41, nl_42, nl_43, nl_45, nl_47, nl_48, nl_50, nl_57, nl_59, nl_60, nl_61, nl_62, nl_63, nl_64, nl_91, nl_93, nl_94, nl_97, nl_98, nl_100, nl_110, nl_122, nl_130, nl_144, nl_160, nl_240, nl_241, nl_255, nl_256, nl_400, nl_800, nl_900, nl_999, nl_1000, nl_1001, nl_1024, nl_1103, nl_1928, nl_4321, nl_5560, nl_12345, nl_1000000, nl_1000003, nl_252645135, nl_858993459, nl_1431655765, nl_1000000000, nI_add, pk_mul, n_sub, n_neg, n_cl, leT, leF, ltT, ltF, eqT, eqF, kbT, s_II, s_In, s_IJ, s_IA, s_IL, s_IR, s_IC, s_JI, s_JJ, s_Jn, s_JA, s_JL, s_JR, s_JC, s_AI, s_AJ, s_AA, s_An, s_AL, s_AR, s_AC, s_LI, s_LJ, s_LA, s_LL, s_Ln, s_LR, s_LC, kB_t]
      · rw [decide_eq_false (by omega), decide_eq_false c2]
        simp (disch := omega) only [k_let, Option.bind_some, ↓reduceIte, eq_self, true_or, or_true, n01_0, n01_1, kb_or, kb_0T, kb_0F, vn_0, vn_1, vn_k, nl_0, nl_1, nl_2, nl_3, nl_4, nl_5, nl_6, nl_7, nl_8, nl_9, nl_10, nl_11, nl_12, nl_13, nl_14, nl_15, nl_16, nl_20, nl_21, nl_22, nl_23, nl_24, nl_25, nl_26, nl_27, nl_28, nl_29, nl_30, nl_31, nl_32, nl_40, nl_41, nl_42, nl_43, nl_45, nl_47, nl_48, nl_50, nl_57, nl_59, nl_60, nl_61, nl_62, nl_63, nl_64, nl_91, nl_93, nl_94, nl_97, nl_98, nl_100, nl_110, nl_122, nl_130, nl_144, nl_160, nl_240, nl_241, nl_255, nl_256, nl_400, nl_800, nl_900, nl_999, nl_1000, nl_1001, nl_1024, nl_1103, nl_1928, nl_4321, nl_5560, nl_12345, nl_1000000, nl_1000003, nl_252645135, nl_858993459, nl_1431655765, nl_1000000000, nI_add, pk_mul, n_sub, n_neg, n_cl, leT, leF, ltT, ltF, eqT, eqF, kbT, s_II, s_In, s_IJ, s_IA, s_IL, s_IR, s_IC, s_JI, s_JJ, s_Jn, s_JA, s_JL, s_JR, s_JC, s_AI, s_AJ, s_AA, s_An, s_AL, s_AR, s_AC, s_LI, s_LJ, s_LA, s_LL, s_Ln, s_LR, s_LC, kB_f]
theorem e_icp {U : St} {K : Pi_} {c : Nat} (hp : PLs U K) (hk : Pk c K) (h45 : gI U 45 = nI K.length) (hl : K.length ≤ 400) : f_X12_isCompared U = some (kB (icp K), U) := by
  have F1 : 1000 < FU := FU_ge (by decide)
  unfold f_X12_isCompared
  rw [h45, show nI K.length - (1 : Int32) = iZ ((K.length : Int) - 1) by rw [show (1 : Int32) = nI 1 from rfl, n_Z, n_Z, z_sub]; rfl]
  exact l_icp K FU hp hk hl (by omega)
