/-! part d6: the reference's leaves and brackets -/
theorem isW_inj {t : Nat → Nat} {n a i j : Nat} (hi : i < 14) (hj : j < 14) (h1 : isW t n a i = true) (h2 : isW t n a j = true) : i = j := by
  have hk := isW_kd h1
  have ha := kd_lt (t := t) (n := n) (a := a) (by omega)
  have he := (en_le (t := t) (Nat.le_of_lt ha)).1
  have e1 := (ew_iff hi hk (en_sm hk) he).mpr h1
  have e2 := (ew_iff hj hk (en_sm hk) he).mpr h2
  have d : ∀ i, i < 14 → ∀ j, j < 14 → nvL.getD i 0 = nvL.getD j 0 → i = j := by decide +kernel
  exact d i hi j hj (e1.symm.trans e2)
def pwF (t : Nat → Nat) (n a : Nat) : Nat → Nat → Int32 → Int32
  | 0, _, its => its
  | m + 1, k, its => pwF t n a m (k + 1) (if isW t n a (k + 6) = true then nI (k + 1) else its)
theorem l_partAt {t : Nat → Nat} {n a : Nat} {U : St} (hM : Mtk t n a U) (hw : ∀ i, i < 7 → gL U 62 i = lZ (wdL.getD i 0)) : ∀ (m f k : Nat) (its : Int32), k + m = 7 → m < f → f_X12_partAt_4 f its (nI k) U = some (pwF t n a m k its, U) := by
  intro m
  induction m with
  | zero =>
    intro f k its hk hf
    obtain ⟨f, rfl⟩ : ∃ j, f = j + 1 := ⟨f - 1, by omega⟩
    rw [f_X12_partAt_4]
    simp (disch := omega) only [k_let, Option.bind_some, ↓reduceIte, eq_self, true_or, or_true, n01_0, n01_1, kb_or, kb_0T, kb_0F, vn_0, vn_1, vn_k, nl_0, nl_1, nl_2, nl_3, nl_4, nl_5, nl_6, nl_7, nl_8, nl_9, nl_10, nl_11, nl_12, nl_13, nl_14, nl_15, nl_16, nl_20, nl_21, nl_22, nl_23, nl_24, nl_25, nl_26, nl_27, nl_28, nl_29, nl_30, nl_31, nl_32, nl_40, nl_41, nl_42, nl_43, nl_45, nl_47, nl_48, nl_50, nl_57, nl_59, nl_60, nl_61, nl_62, nl_63, nl_64, nl_91, nl_93, nl_94, nl_97, nl_98, nl_100, nl_110, nl_122, nl_130, nl_144, nl_160, nl_240, nl_241, nl_255, nl_256, nl_400, nl_800, nl_900, nl_999, nl_1000, nl_1001, nl_1024, nl_1103, nl_1928, nl_4321, nl_5560, nl_12345, nl_1000000, nl_1000003, nl_252645135, nl_858993459, nl_1431655765, nl_1000000000, nI_add, pk_mul, n_sub, n_neg, n_cl, leT, leF, ltT, ltF, eqT, eqF, kbT, s_II, s_In, s_IJ, s_IA, s_IL, s_IR, s_IC, s_JI, s_JJ, s_Jn, s_JA, s_JL, s_JR, s_JC, s_AI, s_AJ, s_AA, s_An, s_AL, s_AR, s_AC, s_LI, s_LJ, s_LA, s_LL, s_Ln, s_LR, s_LC]
    rfl
  | succ m ih =>
    intro f k its hk hf
    obtain ⟨f, rfl⟩ : ∃ j, f = j + 1 := ⟨f - 1, by omega⟩
    have hv : ∀ i, i < 7 → wdL.getD i 0 = nvL.getD (i + 6) 0 := by decide +kernel
    have e := hw k (by omega)
    rw [hv k (by omega)] at e
    rw [f_X12_partAt_4]
    unfold f_X12_partAt_30
    simp (disch := omega) only [k_let, Option.bind_some, ↓reduceIte, eq_self, true_or, or_true, n01_0, n01_1, kb_or, kb_0T, kb_0F, vn_0, vn_1, vn_k, nl_0, nl_1, nl_2, nl_3, nl_4, nl_5, nl_6, nl_7, nl_8, nl_9, nl_10, nl_11, nl_12, nl_13, nl_14, nl_15, nl_16, nl_20, nl_21, nl_22, nl_23, nl_24, nl_25, nl_26, nl_27, nl_28, nl_29, nl_30, nl_31, nl_32, nl_40, nl_41, nl_42, nl_43, nl_45, nl_47, nl_48, nl_50, nl_57, nl_59, nl_60, nl_61, nl_62, nl_63, nl_64, nl_91, nl_93, nl_94, nl_97, nl_98, nl_100, nl_110, nl_122, nl_130, nl_144, nl_160, nl_240, nl_241, nl_255, nl_256, nl_400, nl_800, nl_900, nl_999, nl_1000, nl_1001, nl_1024, nl_1103, nl_1928, nl_4321, nl_5560, nl_12345, nl_1000000, nl_1000003, nl_252645135, nl_858993459, nl_1431655765, nl_1000000000, nI_add, pk_mul, n_sub, n_neg, n_cl, leT, leF, ltT, ltF, eqT, eqF, kbT, s_II, s_In, s_IJ, s_IA, s_IL, s_IR, s_IC, s_JI, s_JJ, s_Jn, s_JA, s_JL, s_JR, s_JC, s_AI, s_AJ, s_AA, s_An, s_AL, s_AR, s_AC, s_LI, s_LJ, s_LA, s_LL, s_Ln, s_LR, s_LC, e]
    rw [e_isWord hM (by omega)]
    show _ = some (pwF t n a m (k + 1) (if isW t n a (k + 6) = true then nI (k + 1) else its), U)
    cases isW t n a (k + 6) with
    | true =>
      simp (disch := omega) only [k_let, Option.bind_some, ↓reduceIte, eq_self, true_or, or_true, n01_0, n01_1, kb_or, kb_0T, kb_0F, vn_0, vn_1, vn_k, nl_0, nl_1, nl_2, nl_3, nl_4, nl_5, nl_6, nl_7, nl_8, nl_9, nl_10, nl_11, nl_12, nl_13, nl_14, nl_15, nl_16, nl_20, nl_21, nl_22, nl_23, nl_24, nl_25, nl_26, nl_27, nl_28, nl_29, nl_30, nl_31, nl_32, nl_40, nl_41, nl_42, nl_43, nl_45, nl_47, nl_48, nl_50, nl_57, nl_59, nl_60, nl_61, nl_62, nl_63, nl_64, nl_91, nl_93, nl_94, nl_97, nl_98, nl_100, nl_110, nl_122, nl_130, nl_144, nl_160, nl_240, nl_241, nl_255, nl_256, nl_400, nl_800, nl_900, nl_999, nl_1000, nl_1001, nl_1024, nl_1103, nl_1928, nl_4321, nl_5560, nl_12345, nl_1000000, nl_1000003, nl_252645135, nl_858993459, nl_1431655765, nl_1000000000, nI_add, pk_mul, n_sub, n_neg, n_cl, leT, leF, ltT, ltF, eqT, eqF, kbT, s_II, s_In, s_IJ, s_IA, s_IL, s_IR, s_IC, s_JI, s_JJ, s_Jn, s_JA, s_JL, s_JR, s_JC, s_AI, s_AJ, s_AA, s_An, s_AL, s_AR, s_AC, s_LI, s_LJ, s_LA, s_LL, s_Ln, s_LR, s_LC, kB_t]
      exact ih f (k + 1) _ (by omega) (by omega)
    | false =>
      simp (disch := omega) only [k_let, Option.bind_some, ↓reduceIte, eq_self, true_or, or_true, n01_0, n01_1, kb_or, kb_0T, kb_0F, vn_0, vn_1, vn_k, nl_0, nl_1, nl_2, nl_3, nl_4, nl_5, nl_6, nl_7, nl_8, nl_9, nl_10, nl_11, nl_12, nl_13, nl_14, nl_15, nl_16, nl_20, nl_21, nl_22, nl_23, nl_24, nl_25, nl_26, nl_27, nl_28, nl_29, nl_30, nl_31, nl_32, nl_40, nl_41, nl_42, nl_43, nl_45, nl_47, nl_48, nl_50, nl_57, nl_59, nl_60, nl_61, nl_62, nl_63, nl_64, nl_91, nl_93, nl_94, nl_97, nl_98, nl_100, nl_110, nl_122, nl_130, nl_144, nl_160, nl_240, nl_241, nl_255, nl_256, nl_400, nl_800, nl_900, nl_999, nl_1000, nl_1001, nl_1024, nl_1103, nl_1928, nl_4321, nl_5560, nl_12345, nl_1000000, nl_1000003, nl_252645135, nl_858993459, nl_1431655765, nl_1000000000, nI_add, pk_mul, n_sub, n_neg, n_cl, leT, leF, ltT, ltF, eqT, eqF, kbT, s_II, s_In, s_IJ, s_IA, s_IL, s_IR, s_IC, s_JI, s_JJ, s_Jn, s_JA, s_JL, s_JR, s_JC, s_AI, s_AJ, s_AA, s_An, s_AL, s_AR, s_AC, s_LI, s_LJ, s_LA, s_LL, s_Ln, s_LR, s_LC, kB_f]
      exact ih f (k + 1) _ (by omega) (by omega)
theorem pw_wh (t : Nat → Nat) (n a : Nat) : pwF t n a 7 0 (iZ (-1)) = if whN t n a = 7 then iZ (-1) else nI (whN t n a + 1) := by
  have key : ∀ i j, i < 14 → j < 14 → i ≠ j → isW t n a i = true → isW t n a j = false := fun i j hi hj hij h => by
    cases q : isW t n a j with
    | false => rfl
    | true => exact absurd (isW_inj hi hj h q) hij
  unfold whN
  show (if isW t n a 12 = true then nI 7 else if isW t n a 11 = true then nI 6 else if isW t n a 10 = true then nI 5 else if isW t n a 9 = true then nI 4 else if isW t n a 8 = true then nI 3 else if isW t n a 7 = true then nI 2 else if isW t n a 6 = true then nI 1 else iZ (-1)) = _
  by_cases h6 : isW t n a 6 = true
  · have k7 := key 6 7 (by decide) (by decide) (by decide) h6
    have k8 := key 6 8 (by decide) (by decide) (by decide) h6
    have k9 := key 6 9 (by decide) (by decide) (by decide) h6
    have k10 := key 6 10 (by decide) (by decide) (by decide) h6
    have k11 := key 6 11 (by decide) (by decide) (by decide) h6
    have k12 := key 6 12 (by decide) (by decide) (by decide) h6
    simp [h6, k7, k8, k9, k10, k11, k12]
  · by_cases h7 : isW t n a 7 = true
    · have k8 := key 7 8 (by decide) (by decide) (by decide) h7
      have k9 := key 7 9 (by decide) (by decide) (by decide) h7
      have k10 := key 7 10 (by decide) (by decide) (by decide) h7
      have k11 := key 7 11 (by decide) (by decide) (by decide) h7
      have k12 := key 7 12 (by decide) (by decide) (by decide) h7
      simp [h6, h7, k8, k9, k10, k11, k12]
    · by_cases h8 : isW t n a 8 = true
      · have k9 := key 8 9 (by decide) (by decide) (by decide) h8
        have k10 := key 8 10 (by decide) (by decide) (by decide) h8
        have k11 := key 8 11 (by decide) (by decide) (by decide) h8
        have k12 := key 8 12 (by decide) (by decide) (by decide) h8
        simp [h6, h7, h8, k9, k10, k11, k12]
      · by_cases h9 : isW t n a 9 = true
        · have k10 := key 9 10 (by decide) (by decide) (by decide) h9
          have k11 := key 9 11 (by decide) (by decide) (by decide) h9
          have k12 := key 9 12 (by decide) (by decide) (by decide) h9
          simp [h6, h7, h8, h9, k10, k11, k12]
        · by_cases h10 : isW t n a 10 = true
          · have k11 := key 10 11 (by decide) (by decide) (by decide) h10
            have k12 := key 10 12 (by decide) (by decide) (by decide) h10
            simp [h6, h7, h8, h9, h10, k11, k12]
          · by_cases h11 : isW t n a 11 = true
            · have k12 := key 11 12 (by decide) (by decide) (by decide) h11
              simp [h6, h7, h8, h9, h10, h11, k12]
            · by_cases h12 : isW t n a 12 = true
              · simp [h6, h7, h8, h9, h10, h11, h12]
              · simp [h6, h7, h8, h9, h10, h11, h12]
theorem e_partAt {t : Nat → Nat} {n a : Nat} {U : St} (hM : Mtk t n a U) (hw : ∀ i, i < 7 → gL U 62 i = lZ (wdL.getD i 0)) : f_X12_partAt U = some (if whN t n a = 7 then iZ (-1) else nI (whN t n a + 1), U) := by
  have F1 : 1000 < FU := FU_ge (by decide)
  have := l_partAt hM hw 7 FU 0 (iZ (-1)) rfl (by omega)
  rw [pw_wh] at this
  exact this
theorem Mxp.setb {t : Nat → Nat} {n a b b' c q o : Nat} {K : Pi_} {U : St} (h : Mxp t n a b c q o K U) (h1 : c + K.length ≤ b') (h2 : b' ≤ 400) : Mxp t n a b' c q o K U :=
  ⟨h.1, h.2.1, h.2.2.1, h.2.2.2.1, h.2.2.2.2.1, h.2.2.2.2.2.1, h.2.2.2.2.2.2.1, h.2.2.2.2.2.2.2.1, h1, h2, h.2.2.2.2.2.2.2.2.2.2⟩
theorem Mxp.s44 {t : Nat → Nat} {n a b c q o : Nat} {K : Pi_} {U : St} (h : Mxp t n a b c q o K U) (q' : Nat) : Mxp t n a b c q' o K (sI U 44 (nI q')) ∧ FM U (sI U 44 (nI q')) ∧ Fx (sI U 44 (nI q')) = Fx U := by
  have f : Fr [44] [] [] [] U (sI U 44 (nI q')) := (Fr.refl U).sI rfl _
  obtain ⟨h1, h2, h3, h4, h5, h6, h7, h8, h9, h10, h11⟩ := h
  exact ⟨⟨h1.fr f rfl rfl rfl rfl rfl rfl, (f.I rfl).trans h2, (f.I rfl).trans h3, s_II _ _ _, (f.I rfl).trans h5, (f.I rfl).trans h6, h7.congr (c := c) h8 (fun i _ => ⟨rfl, rfl⟩) (fun i _ => rfl), h8, h9, h10, h11⟩, f.mono rfl rfl rfl rfl, rfl⟩
theorem Mxp.s46 {t : Nat → Nat} {n a b c q o : Nat} {K : Pi_} {U : St} (h : Mxp t n a b c q o K U) (o' : Nat) : Mxp t n a b c q o' K (sI U 46 (nI o')) ∧ FM U (sI U 46 (nI o')) ∧ Fx (sI U 46 (nI o')) = Fx U := by
  have f : Fr [46] [] [] [] U (sI U 46 (nI o')) := (Fr.refl U).sI rfl _
  obtain ⟨h1, h2, h3, h4, h5, h6, h7, h8, h9, h10, h11⟩ := h
  exact ⟨⟨h1.fr f rfl rfl rfl rfl rfl rfl, (f.I rfl).trans h2, (f.I rfl).trans h3, (f.I rfl).trans h4, (f.I rfl).trans h5, s_II _ _ _, h7.congr (c := c) h8 (fun i _ => ⟨rfl, rfl⟩) (fun i _ => rfl), h8, h9, h10, h11⟩, f.mono rfl rfl rfl rfl, rfl⟩
theorem Mxp.pop {t : Nat → Nat} {n a b c q o : Nat} {x : Nat × Nat} {K : Pi_} {U : St} (h : Mxp t n a b c q o (x :: K) U) : Mxp t n a b c q o K (sI U 45 (nI K.length)) ∧ FM U (sI U 45 (nI K.length)) ∧ Fx (sI U 45 (nI K.length)) = Fx U := by
  have f : Fr [45] [] [] [] U (sI U 45 (nI K.length)) := (Fr.refl U).sI rfl _
  obtain ⟨h1, h2, h3, h4, h5, h6, h7, h8, h9, h10, h11⟩ := h
  have h9 : c + (K.length + 1) ≤ b := h9
  exact ⟨⟨h1.fr f rfl rfl rfl rfl rfl rfl, (f.I rfl).trans h2, (f.I rfl).trans h3, (f.I rfl).trans h4, s_II _ _ _, (f.I rfl).trans h6, h7.2.2.2.congr (c := c) h8.tail (fun i _ => ⟨rfl, rfl⟩) (fun i _ => rfl), h8.tail, by omega, h10, h11⟩, f.mono rfl rfl rfl rfl, rfl⟩
theorem e_leaf {t : Nat → Nat} {n a c q o : Nat} {K : Pi_} {U : St} (hM : Mxp t n a a c q o K U) (hk : kd t n a ≠ 0) (hq : q < 50) (x y : Int32) : ∃ T, f_X12_leaf (nI 1) x y U = some T ∧ Mxp t n (tnx t n a) (tnx t n a) (c + 1) (q + 1) o K T ∧ FM U T ∧ ∀ p, Fx T p = if p = c then dR x y else Fx U p := by
  have hx := tnx_lt hk
  have hl : c + K.length ≤ a := hM.2.2.2.2.2.2.2.2.1
  obtain ⟨T1, e1, m1, f1, x1⟩ := hM.must (by omega)
  obtain ⟨T2, e2, m2, f2, x2⟩ := m1.emit (by omega) x y
  obtain ⟨m3, f3, x3⟩ := m2.s44 (q + 1)
  refine ⟨_, ?_, m3, (f1.trans f2).trans f3, fun p => by rw [x3, x2, x1]⟩
  unfold f_X12_leaf f_X12_leaf_18 f_X12_leaf_19 f_X12_leaf_45
  simp (disch := omega) only [k_let, Option.bind_some, ↓reduceIte, eq_self, true_or, or_true, n01_0, n01_1, kb_or, kb_0T, kb_0F, vn_0, vn_1, vn_k, nl_0, nl_1, nl_2, nl_3, nl_4, nl_5, nl_6, nl_7, nl_8, nl_9, nl_10, nl_11, nl_12, nl_13, nl_14, nl_15, nl_16, nl_20, nl_21, nl_22, nl_23, nl_24, nl_25, nl_26, nl_27, nl_28, nl_29, nl_30, nl_31, nl_32, nl_40, nl_41, nl_42, nl_43, nl_45, nl_47, nl_48, nl_50, nl_57, nl_59, nl_60, nl_61, nl_62, nl_63, nl_64, nl_91, nl_93, nl_94, nl_97, nl_98, nl_100, nl_110, nl_122, nl_130, nl_144, nl_160, nl_240, nl_241, nl_255, nl_256, nl_400, nl_800, nl_900, nl_999, nl_1000, nl_1001, nl_1024, nl_1103, nl_1928, nl_4321, nl_5560, nl_12345, nl_1000000, nl_1000003, nl_252645135, nl_858993459, nl_1431655765, nl_1000000000, nI_add, pk_mul, n_sub, n_neg, n_cl, leT, leF, ltT, ltF, eqT, eqF, kbT, s_II, s_In, s_IJ, s_IA, s_IL, s_IR, s_IC, s_JI, s_JJ, s_Jn, s_JA, s_JL, s_JR, s_JC, s_AI, s_AJ, s_AA, s_An, s_AL, s_AR, s_AC, s_LI, s_LJ, s_LA, s_LL, s_Ln, s_LR, s_LC, hM.2.2.2.1, e1, m1.2.1, e2, m2.2.2.2.1]
theorem e_leafF {t : Nat → Nat} {n a c q o : Nat} {K : Pi_} {U : St} (hM : Mxp t n a a c q o K U) (s : Int32) (hs : s = nI 0 ∨ (s = nI 1 ∧ 50 ≤ q ∧ q < 1000)) (x y : Int32) : ∃ T, f_X12_leaf s x y U = some T ∧ gI T 41 = nI 1 ∧ gI T 40 = nI a ∧ gI T 43 = nI c ∧ gI T 45 = nI K.length ∧ PLs T K ∧ Pk c K ∧ c + K.length ≤ 400 ∧ FMb U T := by
  obtain ⟨T, e, r⟩ := hM.bad
  refine ⟨T, ?_, r⟩
  unfold f_X12_leaf f_X12_leaf_18 f_X12_leaf_19 f_X12_leaf_45
  rcases hs with rfl | ⟨rfl, h1, h2⟩
  · simp (disch := omega) only [k_let, Option.bind_some, ↓reduceIte, eq_self, true_or, or_true, n01_0, n01_1, kb_or, kb_0T, kb_0F, vn_0, vn_1, vn_k, nl_0, nl_1, nl_2, nl_3, nl_4, nl_5, nl_6, nl_7, nl_8, nl_9, nl_10, nl_11, nl_12, nl_13, nl_14, nl_15, nl_16, nl_20, nl_21, nl_22, nl_23, nl_24, nl_25, nl_26, nl_27, nl_28, nl_29, nl_30, nl_31, nl_32, nl_40, nl_41, nl_42, nl_43, nl_45, nl_47, nl_48, nl_50, nl_57, nl_59, nl_60, nl_61, nl_62, nl_63, nl_64, nl_91, nl_93, nl_94, nl_97, nl_98, nl_100, nl_110, nl_122, nl_130, nl_144, nl_160, nl_240, nl_241, nl_255, nl_256, nl_400, nl_800, nl_900, nl_999, nl_1000, nl_1001, nl_1024, nl_1103, nl_1928, nl_4321, nl_5560, nl_12345, nl_1000000, nl_1000003, nl_252645135, nl_858993459, nl_1431655765, nl_1000000000, nI_add, pk_mul, n_sub, n_neg, n_cl, leT, leF, ltT, ltF, eqT, eqF, kbT, s_II, s_In, s_IJ, s_IA, s_IL, s_IR, s_IC, s_JI, s_JJ, s_Jn, s_JA, s_JL, s_JR, s_JC, s_AI, s_AJ, s_AA, s_An, s_AL, s_AR, s_AC, s_LI, s_LJ, s_LA, s_LL, s_Ln, s_LR, s_LC, e, r.1]
  · simp (disch := omega) only [k_let, Option.bind_some, ↓reduceIte, eq_self, true_or, or_true, n01_0, n01_1, kb_or, kb_0T, kb_0F, vn_0, vn_1, vn_k, nl_0, nl_1, nl_2, nl_3, nl_4, nl_5, nl_6, nl_7, nl_8, nl_9, nl_10, nl_11, nl_12, nl_13, nl_14, nl_15, nl_16, nl_20, nl_21, nl_22, nl_23, nl_24, nl_25, nl_26, nl_27, nl_28, nl_29, nl_30, nl_31, nl_32, nl_40, nl_41, nl_42, nl_43, nl_45, nl_47, nl_48, nl_50, nl_57, nl_59, nl_60, nl_61, nl_62, nl_63, nl_64, nl_91, nl_93, nl_94, nl_97, nl_98, nl_100, nl_110, nl_122, nl_130, nl_144, nl_160, nl_240, nl_241, nl_255, nl_256, nl_400, nl_800, nl_900, nl_999, nl_1000, nl_1001, nl_1024, nl_1103, nl_1928, nl_4321, nl_5560, nl_12345, nl_1000000, nl_1000003, nl_252645135, nl_858993459, nl_1431655765, nl_1000000000, nI_add, pk_mul, n_sub, n_neg, n_cl, leT, leF, ltT, ltF, eqT, eqF, kbT, s_II, s_In, s_IJ, s_IA, s_IL, s_IR, s_IC, s_JI, s_JJ, s_Jn, s_JA, s_JL, s_JR, s_JC, s_AI, s_AJ, s_AA, s_An, s_AL, s_AR, s_AC, s_LI, s_LJ, s_LA, s_LL, s_Ln, s_LR, s_LC, hM.2.2.2.1, e, r.1]
theorem MOk.num {t : Nat → Nat} {n tb d a q : Nat} (hk : kd t n a = 2) (hv : vl t a (en t n a - a) ≤ 1000) (hq : q < 50) : MOk t n tb 1 3 7 7 d a q (tnx t n a) (q + 1) (fun _ => some ((vl t a (en t n a - a) : Nat) : Int)) := by
  have hx := tnx_lt (t := t) (n := n) (a := a) (by omega)
  intro c K U hM _ _
  obtain ⟨w, hw1, hw2⟩ := hM.1.2.2.2.2.2.2.1 hk
  have hw := hw2.1 hv
  generalize vl t a (en t n a - a) = V at hv hw hw1 ⊢
  subst hw
  have hwh : whN t n a = 7 := by
    have : ∀ i, isW t n a i = false := fun i => by
      cases z : isW t n a i with
      | false => rfl
      | true => have := isW_kd z; omega
    unfold whN
    simp [this]
  obtain ⟨T, e, m, f, x⟩ := e_leaf hM (by omega) hq (nI 0) (nI V)
  have hs : isS t n a 91 = false := by unfold isS; exact decide_eq_false (fun z => by omega)
  refine ⟨1, c + 1, [], T, lq1 hM.2.1 ?_, m, fun x hx => absurd hx List.not_mem_nil, f, fun p hp => by rw [x, if_neg (by omega)], by omega, ?_, Nat.le_refl _, by omega⟩
  · unfold f_X12_readPart f_X12_readPart_46 f_X12_readPart_57 f_X12_readPart_62 f_X12_readPart_72 f_X12_readPart_85
    simp (disch := omega) only [k_let, Option.bind_some, ↓reduceIte, eq_self, true_or, or_true, n01_0, n01_1, kb_or, kb_0T, kb_0F, vn_0, vn_1, vn_k, nl_0, nl_1, nl_2, nl_3, nl_4, nl_5, nl_6, nl_7, nl_8, nl_9, nl_10, nl_11, nl_12, nl_13, nl_14, nl_15, nl_16, nl_20, nl_21, nl_22, nl_23, nl_24, nl_25, nl_26, nl_27, nl_28, nl_29, nl_30, nl_31, nl_32, nl_40, nl_41, nl_42, nl_43, nl_45, nl_47, nl_48, nl_50, nl_57, nl_59, nl_60, nl_61, nl_62, nl_63, nl_64, nl_91, nl_93, nl_94, nl_97, nl_98, nl_100, nl_110, nl_122, nl_130, nl_144, nl_160, nl_240, nl_241, nl_255, nl_256, nl_400, nl_800, nl_900, nl_999, nl_1000, nl_1001, nl_1024, nl_1103, nl_1928, nl_4321, nl_5560, nl_12345, nl_1000000, nl_1000003, nl_252645135, nl_858993459, nl_1431655765, nl_1000000000, nI_add, pk_mul, n_sub, n_neg, n_cl, leT, leF, ltT, ltF, eqT, eqF, kbT, s_II, s_In, s_IJ, s_IA, s_IL, s_IR, s_IC, s_JI, s_JJ, s_Jn, s_JA, s_JL, s_JR, s_JC, s_AI, s_AJ, s_AA, s_An, s_AL, s_AR, s_AC, s_LI, s_LJ, s_LA, s_LL, s_Ln, s_LR, s_LC, zleT, zleF, zltT, zltF, zeqT, zeqF, nzleT, nzleF, nzltT, nzltF, nzeqT, nzeqF, znleT, znleF, znltT, znltF, zneqT, zneqF, z_add, z_sub, z_mul, z_neg, z_an, z_na, z_sn, z_ns, z_mn, z_nm, e_isSign hM.1, hs, kB_f]
    rw [e_partAt hM.1 hM.2.2.2.2.2.2.2.2.2.2, hwh, if_pos rfl]
    simp only [Option.bind_some, hM.1.2.2.2.2.1, hk, hw1]
    rw [if_pos trivial, if_neg (show ¬ ((1000 : Int64) < lZ (V : Int)) by rw [show (1000 : Int64) = lZ 1000 from rfl, L_lt (by decide) (by decide) (by omega) (by omega)]; omega), if_pos (show iZ (-1) = iZ (-((1 : Nat) : Int)) from rfl), if_pos (show iZ (-1) = iZ (-((1 : Nat) : Int)) from rfl), L_I, ← n_Z V, e]
    rfl
  · show Cm (Fx T) c (c + 1) _ (q + 1 - q)
    refine (Cm.num (v := (V : Int)) ?_ (by omega) (by omega)).mono (by omega)
    rw [x, if_pos rfl]
    unfold dR
    rw [if_pos rfl, n_ti (by omega)]
theorem MOk.word {t : Nat → Nat} {n tb d a q : Nat} (hw : whN t n a < 7) (hq : q < 50) : MOk t n tb 1 3 7 7 d a q (tnx t n a) (q + 1) (fun E => some (E (whN t n a))) := by
  have hk : kd t n a = 1 := by
    have : ∃ i, isW t n a i = true := by
      refine Classical.byContradiction fun z => ?_
      have : ∀ i, isW t n a i = false := fun i => by
        cases z2 : isW t n a i with
        | false => rfl
        | true => exact absurd ⟨i, z2⟩ z
      unfold whN at hw
      simp [this] at hw
    obtain ⟨i, hi⟩ := this
    exact isW_kd hi
  have hx := tnx_lt (t := t) (n := n) (a := a) (by omega)
  intro c K U hM _ _
  generalize hW : whN t n a = w at hw ⊢
  obtain ⟨T, e, m, f, x⟩ := e_leaf hM (by omega) hq (nI (w + 1)) (nI 0)
  have hs : isS t n a 91 = false := by unfold isS; exact decide_eq_false (fun z => by omega)
  refine ⟨1, c + 1, [], T, lq1 hM.2.1 ?_, m, fun x hx => absurd hx List.not_mem_nil, f, fun p hp => by rw [x, if_neg (by omega)], by omega, ?_, Nat.le_refl _, by omega⟩
  · unfold f_X12_readPart f_X12_readPart_45 f_X12_readPart_46 f_X12_readPart_57 f_X12_readPart_62 f_X12_readPart_72 f_X12_readPart_85
    simp (disch := omega) only [k_let, Option.bind_some, ↓reduceIte, eq_self, true_or, or_true, n01_0, n01_1, kb_or, kb_0T, kb_0F, vn_0, vn_1, vn_k, nl_0, nl_1, nl_2, nl_3, nl_4, nl_5, nl_6, nl_7, nl_8, nl_9, nl_10, nl_11, nl_12, nl_13, nl_14, nl_15, nl_16, nl_20, nl_21, nl_22, nl_23, nl_24, nl_25, nl_26, nl_27, nl_28, nl_29, nl_30, nl_31, nl_32, nl_40, nl_41, nl_42, nl_43, nl_45, nl_47, nl_48, nl_50, nl_57, nl_59, nl_60, nl_61, nl_62, nl_63, nl_64, nl_91, nl_93, nl_94, nl_97, nl_98, nl_100, nl_110, nl_122, nl_130, nl_144, nl_160, nl_240, nl_241, nl_255, nl_256, nl_400, nl_800, nl_900, nl_999, nl_1000, nl_1001, nl_1024, nl_1103, nl_1928, nl_4321, nl_5560, nl_12345, nl_1000000, nl_1000003, nl_252645135, nl_858993459, nl_1431655765, nl_1000000000, nI_add, pk_mul, n_sub, n_neg, n_cl, leT, leF, ltT, ltF, eqT, eqF, kbT, s_II, s_In, s_IJ, s_IA, s_IL, s_IR, s_IC, s_JI, s_JJ, s_Jn, s_JA, s_JL, s_JR, s_JC, s_AI, s_AJ, s_AA, s_An, s_AL, s_AR, s_AC, s_LI, s_LJ, s_LA, s_LL, s_Ln, s_LR, s_LC, zleT, zleF, zltT, zltF, zeqT, zeqF, nzleT, nzleF, nzltT, nzltF, nzeqT, nzeqF, znleT, znleF, znltT, znltF, zneqT, zneqF, z_add, z_sub, z_mul, z_neg, z_an, z_na, z_sn, z_ns, z_mn, z_nm, e_isSign hM.1, hs, kB_f]
    rw [e_partAt hM.1 hM.2.2.2.2.2.2.2.2.2.2, hW, if_neg (by omega)]
    simp (disch := omega) only [k_let, Option.bind_some, ↓reduceIte, eq_self, true_or, or_true, n01_0, n01_1, kb_or, kb_0T, kb_0F, vn_0, vn_1, vn_k, nl_0, nl_1, nl_2, nl_3, nl_4, nl_5, nl_6, nl_7, nl_8, nl_9, nl_10, nl_11, nl_12, nl_13, nl_14, nl_15, nl_16, nl_20, nl_21, nl_22, nl_23, nl_24, nl_25, nl_26, nl_27, nl_28, nl_29, nl_30, nl_31, nl_32, nl_40, nl_41, nl_42, nl_43, nl_45, nl_47, nl_48, nl_50, nl_57, nl_59, nl_60, nl_61, nl_62, nl_63, nl_64, nl_91, nl_93, nl_94, nl_97, nl_98, nl_100, nl_110, nl_122, nl_130, nl_144, nl_160, nl_240, nl_241, nl_255, nl_256, nl_400, nl_800, nl_900, nl_999, nl_1000, nl_1001, nl_1024, nl_1103, nl_1928, nl_4321, nl_5560, nl_12345, nl_1000000, nl_1000003, nl_252645135, nl_858993459, nl_1431655765, nl_1000000000, nI_add, pk_mul, n_sub, n_neg, n_cl, leT, leF, ltT, ltF, eqT, eqF, kbT, s_II, s_In, s_IJ, s_IA, s_IL, s_IR, s_IC, s_JI, s_JJ, s_Jn, s_JA, s_JL, s_JR, s_JC, s_AI, s_AJ, s_AA, s_An, s_AL, s_AR, s_AC, s_LI, s_LJ, s_LA, s_LL, s_Ln, s_LR, s_LC, zleT, zleF, zltT, zltF, zeqT, zeqF, nzleT, nzleF, nzltT, nzltF, nzeqT, nzeqF, znleT, znleF, znltT, znltF, zneqT, zneqF, z_add, z_sub, z_mul, z_neg, z_an, z_na, z_sn, z_ns, z_mn, z_nm, hM.1.2.2.2.2.1, hk, e]
  · show Cm (Fx T) c (c + 1) _ (q + 1 - q)
    refine (Cm.word (w := w) ?_ hw).mono (by omega)
    rw [x, if_pos rfl]
    have : ∀ w, w < 7 → dR (nI (w + 1)) (nI 0) = (1, (w : Int)) := by decide +kernel
    exact this w hw
theorem MFl.part {t : Nat → Nat} {n tb d a q : Nat} (hs : isS t n a 91 = false) (hq : q ≤ 50) (h : (¬ (kd t n a = 2 ∧ vl t a (en t n a - a) ≤ 1000) ∧ whN t n a = 7) ∨ 50 ≤ q) : MFl t n tb 1 3 7 d a q a := by
  intro c K U hM _ _
  have k4 := kd_4 t n a
  have han := hM.1.2.1
  have fin : ∀ (s : Int32), (s = nI 0 ∨ (s = nI 1 ∧ 50 ≤ q ∧ q < 1000)) → ∀ x y, (f_X12_readPart U = f_X12_readPart_85 s x y U) → MBd n tb 1 a U a := by
    intro s hs2 x y he
    obtain ⟨T, e, r1, r2, r3, r4, r5, r6, r7, r8⟩ := e_leafF hM s hs2 x y
    refine ⟨1, 3, T, c, K, by omega, lq1 hM.2.1 ?_, r1, r2, r3, r4, r5, r6, r7, r8⟩
    rw [he]
    unfold f_X12_readPart_85
    rw [e]
    rfl
  have hP : f_X12_readPart U = (some ((if whN t n a = 7 then iZ (-1) else nI (whN t n a + 1)), U)).bind fun q18 => if (gI q18.2 39) = (2 : Int32) then if (1000 : Int64) < (gJ q18.2 0) then f_X12_readPart_45 q18.1 q18.2 else f_X12_readPart_46 q18.1 (1 : Int32) q18.2 else f_X12_readPart_45 q18.1 q18.2 := by
    rw [← e_partAt hM.1 hM.2.2.2.2.2.2.2.2.2.2]
    unfold f_X12_readPart
    simp (disch := omega) only [k_let, Option.bind_some, ↓reduceIte, eq_self, true_or, or_true, n01_0, n01_1, kb_or, kb_0T, kb_0F, vn_0, vn_1, vn_k, nl_0, nl_1, nl_2, nl_3, nl_4, nl_5, nl_6, nl_7, nl_8, nl_9, nl_10, nl_11, nl_12, nl_13, nl_14, nl_15, nl_16, nl_20, nl_21, nl_22, nl_23, nl_24, nl_25, nl_26, nl_27, nl_28, nl_29, nl_30, nl_31, nl_32, nl_40, nl_41, nl_42, nl_43, nl_45, nl_47, nl_48, nl_50, nl_57, nl_59, nl_60, nl_61, nl_62, nl_63, nl_64, nl_91, nl_93, nl_94, nl_97, nl_98, nl_100, nl_110, nl_122, nl_130, nl_144, nl_160, nl_240, nl_241, nl_255, nl_256, nl_400, nl_800, nl_900, nl_999, nl_1000, nl_1001, nl_1024, nl_1103, nl_1928, nl_4321, nl_5560, nl_12345, nl_1000000, nl_1000003, nl_252645135, nl_858993459, nl_1431655765, nl_1000000000, nI_add, pk_mul, n_sub, n_neg, n_cl, leT, leF, ltT, ltF, eqT, eqF, kbT, s_II, s_In, s_IJ, s_IA, s_IL, s_IR, s_IC, s_JI, s_JJ, s_Jn, s_JA, s_JL, s_JR, s_JC, s_AI, s_AJ, s_AA, s_An, s_AL, s_AR, s_AC, s_LI, s_LJ, s_LA, s_LL, s_Ln, s_LR, s_LC, zleT, zleF, zltT, zltF, zeqT, zeqF, nzleT, nzleF, nzltT, nzltF, nzeqT, nzeqF, znleT, znleF, znltT, znltF, zneqT, zneqF, z_add, z_sub, z_mul, z_neg, z_an, z_na, z_sn, z_ns, z_mn, z_nm, e_isSign hM.1, hs, kB_f]
  have wlt : whN t n a ≤ 7 := by unfold whN; (repeat' split) <;> omega
  by_cases hd : kd t n a = 2 ∧ vl t a (en t n a - a) ≤ 1000
  · have h5 : 50 ≤ q := by rcases h with h | h; exact absurd hd h.1; exact h
    have hwh : whN t n a = 7 := by
      have : ∀ i, isW t n a i = false := fun i => by
        cases z : isW t n a i with
        | false => rfl
        | true => have := isW_kd z; omega
      unfold whN
      simp [this]
    obtain ⟨w, hw1, hw2⟩ := hM.1.2.2.2.2.2.2.1 hd.1
    have hw := hw2.1 hd.2
    refine fin (nI 1) (Or.inr ⟨rfl, h5, by omega⟩) (nI 0) (gJ U 0).toInt32 ?_
    rw [hP, hwh, if_pos rfl]
    simp only [Option.bind_some, hM.1.2.2.2.2.1, hd.1]
    rw [if_pos (show nI 2 = (2 : Int32) from rfl), if_neg (show ¬ ((1000 : Int64) < gJ U 0) by rw [hw1, hw, show (1000 : Int64) = lZ 1000 from rfl, L_lt (by decide) (by decide) (by omega) (by omega)]; omega)]
    rfl
  · by_cases hwh : whN t n a = 7
    · refine fin (nI 0) (Or.inl rfl) (nI 0) (nI 0) ?_
      rw [hP, hwh, if_pos rfl]
      simp only [Option.bind_some, hM.1.2.2.2.2.1]
      by_cases k2 : kd t n a = 2
      · obtain ⟨w, hw1, hw2⟩ := hM.1.2.2.2.2.2.2.1 k2
        have hw := hw2.2.1 (by omega)
        have hw3 := hw2.2.2.2
        rw [k2, if_pos (show nI 2 = (2 : Int32) from rfl), if_pos (show (1000 : Int64) < gJ U 0 by rw [hw1, show (1000 : Int64) = lZ 1000 from rfl, L_lt (by decide) (by decide) (by omega) (by omega)]; exact hw)]
        rfl
      · rw [if_neg (by rw [show (2 : Int32) = nI 2 from rfl, n_eq (by omega) (by decide)]; exact k2)]
        rfl
    · have h5 : 50 ≤ q := by rcases h with h | h; exact absurd h.2 hwh; exact h
      have k1 : kd t n a ≠ 2 := fun k2 => by
        have : ∀ i, isW t n a i = false := fun i => by
          cases z : isW t n a i with
          | false => rfl
          | true => have := isW_kd z; omega
        unfold whN at hwh
        simp [this] at hwh
      refine fin (nI 1) (Or.inr ⟨rfl, h5, by omega⟩) (nI (whN t n a + 1)) (nI 0) ?_
      rw [hP, if_neg hwh]
      simp only [Option.bind_some, hM.1.2.2.2.2.1]
      rw [if_neg (by rw [show (2 : Int32) = nI 2 from rfl, n_eq (by omega) (by decide)]; exact k1)]
      unfold f_X12_readPart_45 f_X12_readPart_46 f_X12_readPart_57 f_X12_readPart_62 f_X12_readPart_72
      simp (disch := omega) only [k_let, Option.bind_some, ↓reduceIte, eq_self, true_or, or_true, n01_0, n01_1, kb_or, kb_0T, kb_0F, vn_0, vn_1, vn_k, nl_0, nl_1, nl_2, nl_3, nl_4, nl_5, nl_6, nl_7, nl_8, nl_9, nl_10, nl_11, nl_12, nl_13, nl_14, nl_15, nl_16, nl_20, nl_21, nl_22, nl_23, nl_24, nl_25, nl_26, nl_27, nl_28, nl_29, nl_30, nl_31, nl_32, nl_40, nl_41, nl_42, nl_43, nl_45, nl_47, nl_48, nl_50, nl_57, nl_59, nl_60, nl_61, nl_62, nl_63, nl_64, nl_91, nl_93, nl_94, nl_97, nl_98, nl_100, nl_110, nl_122, nl_130, nl_144, nl_160, nl_240, nl_241, nl_255, nl_256, nl_400, nl_800, nl_900, nl_999, nl_1000, nl_1001, nl_1024, nl_1103, nl_1928, nl_4321, nl_5560, nl_12345, nl_1000000, nl_1000003, nl_252645135, nl_858993459, nl_1431655765, nl_1000000000, nI_add, pk_mul, n_sub, n_neg, n_cl, leT, leF, ltT, ltF, eqT, eqF, kbT, s_II, s_In, s_IJ, s_IA, s_IL, s_IR, s_IC, s_JI, s_JJ, s_Jn, s_JA, s_JL, s_JR, s_JC, s_AI, s_AJ, s_AA, s_An, s_AL, s_AR, s_AC, s_LI, s_LJ, s_LA, s_LL, s_Ln, s_LR, s_LC, zleT, zleF, zltT, zltF, zeqT, zeqF, nzleT, nzleF, nzltT, nzltF, nzeqT, nzeqF, znleT, znleF, znltT, znltF, zneqT, zneqF, z_add, z_sub, z_mul, z_neg, z_an, z_na, z_sn, z_ns, z_mn, z_nm]
