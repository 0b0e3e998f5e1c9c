/-! part 70: the reference asks all debts -/
theorem mj_run {L i j : Nat} {g : Nat → Int32} {E : Nat → Int} {δ : Den} (hE : EnvOk E) (h : Cm (Fm g) i j δ 50) (hj : j ≤ 400) {U : St} (hA : AtM L g E U) : ∃ V, Fr [48] [1] [] [65] U V ∧ f_X12_reckonAll (nI i) (nI j) U = some V ∧ ((δ E = none ∧ gI V 48 = nI 1) ∨ ∃ v, δ E = some v ∧ okV v ∧ gI V 48 = nI 0 ∧ gJ V 1 = lZ v) := by
  have hij := h.1.1
  have hr := h.run hE (L := 400) (n := 400) (st := []) (by decide) (by omega)
  have fU : Fr [48] [1] [] [65] U (sI U 48 (nI 0)) := (Fr.refl U).sI rfl _
  have hS0 : StkM (sI U 48 (nI 0)) [] := ⟨fun i hi => absurd hi (Nat.not_lt_zero _), fun v hv => by cases hv⟩
  cases e : δ E with
  | none =>
    rw [e] at hr
    obtain ⟨V, v1, v2, v3⟩ := mj_reck hE hj 400 i [] (sI U 48 (nI 0)) FU none hr (hA.fr fU rfl rfl rfl) hS0 (s_II _ _ _) (by decide) (FU_ge (by decide)) (by omega)
    refine ⟨V, fU.trans v1, ?_, Or.inl ⟨rfl, v3⟩⟩
    unfold f_X12_reckonAll
    simp only [k_let, nl_0]
    exact v2
  | some v =>
    rw [e] at hr
    obtain ⟨V, v1, v2, v3⟩ := mj_reck hE hj 400 i [] (sI U 48 (nI 0)) FU (some [v]) hr (hA.fr fU rfl rfl rfl) hS0 (s_II _ _ _) (by decide) (FU_ge (by decide)) (by omega)
    refine ⟨V, fU.trans v1, ?_, Or.inr ⟨v, rfl, h.1.2 E hE v e, v3.1, v3.2⟩⟩
    unfold f_X12_reckonAll
    simp only [k_let, nl_0]
    exact v2
/-- does the clause hold? -/
def soB (kd : Nat) (s t : Option Int) : Bool := decide (t = some 1) && (decide (kd ≠ 0) || s.isSome)
theorem mj_isSo {L c kd : Nat} {g : Nat → Int32} {E : Nat → Int} {ds dt : Den} (hE : EnvOk E) (hc : c < 12) (hk : kd < 3) (ht : T01 dt) (h : ClM g c kd ds dt) {U : St} (hA : AtM L g E U) : ∃ V, Fr [48] [1, 2] [] [65] U V ∧ f_X12_isSo (nI (L + 2 + 8 * c)) U = some (kB (soB kd (ds E) (dt E)), V) ∧ (soB kd (ds E) (dt E) = true → kd = 0 → ∃ v, ds E = some v ∧ okV v ∧ gJ V 2 = lZ v) := by
  obtain ⟨h0, i, j, k, l, hl, h3, h4, h5, h6, hij, hjk, hkl, hs, htt⟩ := h
  obtain ⟨A1, A2, A3, A4⟩ := hA
  have hA : AtM L g E U := ⟨A1, A2, A3, A4⟩
  have g0 : ∀ {V : St}, Fr [48] [1, 2] [] [65] U V → gA V 53 (L + 2 + 8 * c) = nI kd := fun f => by rw [f.A rfl, Nat.add_assoc, A3, h0]
  have g3 : ∀ {V : St}, Fr [48] [1, 2] [] [65] U V → gA V 53 (L + 2 + 8 * c + 3) = nI i := fun f => by rw [f.A rfl, Nat.add_assoc, Nat.add_assoc, A3, ← Nat.add_assoc, h3]
  have g4 : ∀ {V : St}, Fr [48] [1, 2] [] [65] U V → gA V 53 (L + 2 + 8 * c + 4) = nI j := fun f => by rw [f.A rfl, Nat.add_assoc, Nat.add_assoc, A3, ← Nat.add_assoc, h4]
  have g5 : gA U 53 (L + 2 + 8 * c + 5) = nI k := by rw [Nat.add_assoc, Nat.add_assoc, A3, ← Nat.add_assoc, h5]
  have g6 : gA U 53 (L + 2 + 8 * c + 6) = nI l := by rw [Nat.add_assoc, Nat.add_assoc, A3, ← Nat.add_assoc, h6]
  -- the sum, behind whatever the test has left
  have sum : ∀ {V : St}, Fr [48] [1, 2] [] [65] U V → ∃ W, Fr [48] [1, 2] [] [65] U W ∧ f_X12_isSo_59 (nI (L + 2 + 8 * c)) V = some (kB (decide (kd ≠ 0) || (ds E).isSome), W) ∧ ((decide (kd ≠ 0) || (ds E).isSome) = true → kd = 0 → ∃ v, ds E = some v ∧ okV v ∧ gJ W 2 = lZ v) := fun {V} f => by
    have a0 := g0 f
    have a3 := g3 f
    have a4 := g4 f
    by_cases ck : kd = 0
    · subst ck
      obtain ⟨W, w1, w2, w3⟩ := mj_run hE (hs rfl) (by omega) (hA.fr f rfl rfl rfl)
      refine ⟨sJ W 2 (gJ W 1), (f.trans (w1.mono rfl rfl rfl rfl)).sJ rfl _, ?_, ?_⟩
      · unfold f_X12_isSo_59 f_X12_isSo_108
        rcases w3 with ⟨q1, q2⟩ | ⟨v, q1, q2, q3, q4⟩
        · simp (disch := omega) only [k_let, Option.bind_some, ↓reduceIte, eq_self, true_or, or_true, n01_0, n01_1, kb_or, kb_0T, kb_0F, vn_0, vn_1, vn_k, nl_0, nl_1, nl_2, nl_3, nl_4, nl_5, nl_6, nl_7, nl_8, nl_9, nl_10, nl_11, nl_12, nl_13, nl_14, nl_15, nl_16, nl_20, nl_21, nl_22, nl_23, nl_24, nl_25, nl_26, nl_27, nl_28, nl_29, nl_30, nl_31, nl_32, nl_40, nl_41, nl_42, nl_43, nl_45, nl_47, nl_48, nl_50, nl_57, nl_59, nl_60, nl_61, nl_62, nl_63, nl_64, nl_91, nl_93, nl_94, nl_97, nl_98, nl_100, nl_110, nl_122, nl_130, nl_144, nl_160, nl_240, nl_241, nl_255, nl_256, nl_400, nl_800, nl_900, nl_999, nl_1000, nl_1001, nl_1024, nl_1103, nl_1928, nl_4321, nl_5560, nl_12345, nl_1000000, nl_1000003, nl_252645135, nl_858993459, nl_1431655765, nl_1000000000, nI_add, pk_mul, n_sub, n_neg, n_cl, leT, leF, ltT, ltF, eqT, eqF, kbT, s_II, s_In, s_IJ, s_IA, s_IL, s_IR, s_IC, s_JI, s_JJ, s_Jn, s_JA, s_JL, s_JR, s_JC, s_AI, s_AJ, s_AA, s_An, s_AL, s_AR, s_AC, s_LI, s_LJ, s_LA, s_LL, s_Ln, s_LR, s_LC, a0, a3, a4, w2, q2, q1, ne_eq, not_true_eq_false, decide_false, Bool.false_or, Option.isSome_none, kB_f]
        · simp (disch := omega) only [k_let, Option.bind_some, ↓reduceIte, eq_self, true_or, or_true, n01_0, n01_1, kb_or, kb_0T, kb_0F, vn_0, vn_1, vn_k, nl_0, nl_1, nl_2, nl_3, nl_4, nl_5, nl_6, nl_7, nl_8, nl_9, nl_10, nl_11, nl_12, nl_13, nl_14, nl_15, nl_16, nl_20, nl_21, nl_22, nl_23, nl_24, nl_25, nl_26, nl_27, nl_28, nl_29, nl_30, nl_31, nl_32, nl_40, nl_41, nl_42, nl_43, nl_45, nl_47, nl_48, nl_50, nl_57, nl_59, nl_60, nl_61, nl_62, nl_63, nl_64, nl_91, nl_93, nl_94, nl_97, nl_98, nl_100, nl_110, nl_122, nl_130, nl_144, nl_160, nl_240, nl_241, nl_255, nl_256, nl_400, nl_800, nl_900, nl_999, nl_1000, nl_1001, nl_1024, nl_1103, nl_1928, nl_4321, nl_5560, nl_12345, nl_1000000, nl_1000003, nl_252645135, nl_858993459, nl_1431655765, nl_1000000000, nI_add, pk_mul, n_sub, n_neg, n_cl, leT, leF, ltT, ltF, eqT, eqF, kbT, s_II, s_In, s_IJ, s_IA, s_IL, s_IR, s_IC, s_JI, s_JJ, s_Jn, s_JA, s_JL, s_JR, s_JC, s_AI, s_AJ, s_AA, s_An, s_AL, s_AR, s_AC, s_LI, s_LJ, s_LA, s_LL, s_Ln, s_LR, s_LC, a0, a3, a4, w2, q3, q1, ne_eq, not_true_eq_false, decide_false, Bool.false_or, Option.isSome_some, kB_t]
      · intro hb _
        rcases w3 with ⟨q1, q2⟩ | ⟨v, q1, q2, q3, q4⟩
        · rw [q1] at hb; cases hb
        · exact ⟨v, q1, q2, by rw [s_JJ]; exact q4⟩
    · refine ⟨V, f, ?_, fun _ q => absurd q ck⟩
      have : kd = 1 ∨ kd = 2 := by omega
      unfold f_X12_isSo_59
      simp (disch := omega) only [k_let, Option.bind_some, ↓reduceIte, eq_self, true_or, or_true, n01_0, n01_1, kb_or, kb_0T, kb_0F, vn_0, vn_1, vn_k, nl_0, nl_1, nl_2, nl_3, nl_4, nl_5, nl_6, nl_7, nl_8, nl_9, nl_10, nl_11, nl_12, nl_13, nl_14, nl_15, nl_16, nl_20, nl_21, nl_22, nl_23, nl_24, nl_25, nl_26, nl_27, nl_28, nl_29, nl_30, nl_31, nl_32, nl_40, nl_41, nl_42, nl_43, nl_45, nl_47, nl_48, nl_50, nl_57, nl_59, nl_60, nl_61, nl_62, nl_63, nl_64, nl_91, nl_93, nl_94, nl_97, nl_98, nl_100, nl_110, nl_122, nl_130, nl_144, nl_160, nl_240, nl_241, nl_255, nl_256, nl_400, nl_800, nl_900, nl_999, nl_1000, nl_1001, nl_1024, nl_1103, nl_1928, nl_4321, nl_5560, nl_12345, nl_1000000, nl_1000003, nl_252645135, nl_858993459, nl_1431655765, nl_1000000000, nI_add, pk_mul, n_sub, n_neg, n_cl, leT, leF, ltT, ltF, eqT, eqF, kbT, s_II, s_In, s_IJ, s_IA, s_IL, s_IR, s_IC, s_JI, s_JJ, s_Jn, s_JA, s_JL, s_JR, s_JC, s_AI, s_AJ, s_AA, s_An, s_AL, s_AR, s_AC, s_LI, s_LJ, s_LA, s_LL, s_Ln, s_LR, s_LC, a0, ne_eq, ck, not_false_eq_true, decide_true, Bool.true_or, kB_t]
  rcases htt with ⟨hkl2, hT⟩ | ⟨hkl2, hT⟩
  · obtain ⟨W, w1, w2, w3⟩ := mj_run hE hT hl hA
    have f1 : Fr [48] [1, 2] [] [65] U W := w1.mono rfl rfl rfl rfl
    rcases w3 with ⟨q1, q2⟩ | ⟨v, q1, q2, q3, q4⟩
    · refine ⟨W, f1, ?_, fun hb => ?_⟩
      · unfold f_X12_isSo f_X12_isSo_57
        simp (disch := omega) only [k_let, Option.bind_some, ↓reduceIte, eq_self, true_or, or_true, n01_0, n01_1, kb_or, kb_0T, kb_0F, vn_0, vn_1, vn_k, nl_0, nl_1, nl_2, nl_3, nl_4, nl_5, nl_6, nl_7, nl_8, nl_9, nl_10, nl_11, nl_12, nl_13, nl_14, nl_15, nl_16, nl_20, nl_21, nl_22, nl_23, nl_24, nl_25, nl_26, nl_27, nl_28, nl_29, nl_30, nl_31, nl_32, nl_40, nl_41, nl_42, nl_43, nl_45, nl_47, nl_48, nl_50, nl_57, nl_59, nl_60, nl_61, nl_62, nl_63, nl_64, nl_91, nl_93, nl_94, nl_97, nl_98, nl_100, nl_110, nl_122, nl_130, nl_144, nl_160, nl_240, nl_241, nl_255, nl_256, nl_400, nl_800, nl_900, nl_999, nl_1000, nl_1001, nl_1024, nl_1103, nl_1928, nl_4321, nl_5560, nl_12345, nl_1000000, nl_1000003, nl_252645135, nl_858993459, nl_1431655765, nl_1000000000, nI_add, pk_mul, n_sub, n_neg, n_cl, leT, leF, ltT, ltF, eqT, eqF, kbT, s_II, s_In, s_IJ, s_IA, s_IL, s_IR, s_IC, s_JI, s_JJ, s_Jn, s_JA, s_JL, s_JR, s_JC, s_AI, s_AJ, s_AA, s_An, s_AL, s_AR, s_AC, s_LI, s_LJ, s_LA, s_LL, s_Ln, s_LR, s_LC, g5, g6, w2, q2, soB, q1]
        rfl
      · unfold soB at hb
        rw [q1] at hb
        exact absurd hb (by simp)
    · have hv := ht E hE v q1
      by_cases cv : v = 1
      · subst cv
        obtain ⟨X, x1, x2, x3⟩ := sum f1
        refine ⟨X, x1, ?_, fun hb => x3 (by unfold soB at hb; rw [q1] at hb; simpa using hb)⟩
        have es : soB kd (ds E) (dt E) = (decide (kd ≠ 0) || (ds E).isSome) := by unfold soB; rw [q1]; simp
        rw [es]
        unfold f_X12_isSo f_X12_isSo_57
        simp (disch := omega) only [k_let, Option.bind_some, ↓reduceIte, eq_self, true_or, or_true, n01_0, n01_1, kb_or, kb_0T, kb_0F, vn_0, vn_1, vn_k, nl_0, nl_1, nl_2, nl_3, nl_4, nl_5, nl_6, nl_7, nl_8, nl_9, nl_10, nl_11, nl_12, nl_13, nl_14, nl_15, nl_16, nl_20, nl_21, nl_22, nl_23, nl_24, nl_25, nl_26, nl_27, nl_28, nl_29, nl_30, nl_31, nl_32, nl_40, nl_41, nl_42, nl_43, nl_45, nl_47, nl_48, nl_50, nl_57, nl_59, nl_60, nl_61, nl_62, nl_63, nl_64, nl_91, nl_93, nl_94, nl_97, nl_98, nl_100, nl_110, nl_122, nl_130, nl_144, nl_160, nl_240, nl_241, nl_255, nl_256, nl_400, nl_800, nl_900, nl_999, nl_1000, nl_1001, nl_1024, nl_1103, nl_1928, nl_4321, nl_5560, nl_12345, nl_1000000, nl_1000003, nl_252645135, nl_858993459, nl_1431655765, nl_1000000000, nI_add, pk_mul, n_sub, n_neg, n_cl, leT, leF, ltT, ltF, eqT, eqF, kbT, s_II, s_In, s_IJ, s_IA, s_IL, s_IR, s_IC, s_JI, s_JJ, s_Jn, s_JA, s_JL, s_JR, s_JC, s_AI, s_AJ, s_AA, s_An, s_AL, s_AR, s_AC, s_LI, s_LJ, s_LA, s_LL, s_Ln, s_LR, s_LC, ll_0, ll_1, ll_2, ll_7, ll_8, ll_9, ll_10, ll_20, ll_23, ll_24, ll_26, ll_30, ll_32, ll_48, ll_96, ll_240, ll_256, ll_294, ll_498, ll_999, ll_1000, ll_1103, ll_1476, ll_12345, ll_14836, ll_65536, ll_1000000, ll_1000003, ll_1048576, ll_1000000000, L_leT, L_leF, L_ltT, L_ltF, L_eqT, L_eqF, g5, g6, w2, q3, q4, x2]
      · have : v = 0 := by omega
        subst this
        have es : soB kd (ds E) (dt E) = false := by unfold soB; rw [q1]; simp
        refine ⟨W, f1, ?_, fun hb => by rw [es] at hb; cases hb⟩
        rw [es]
        unfold f_X12_isSo f_X12_isSo_57
        simp (disch := omega) only [k_let, Option.bind_some, ↓reduceIte, eq_self, true_or, or_true, n01_0, n01_1, kb_or, kb_0T, kb_0F, vn_0, vn_1, vn_k, nl_0, nl_1, nl_2, nl_3, nl_4, nl_5, nl_6, nl_7, nl_8, nl_9, nl_10, nl_11, nl_12, nl_13, nl_14, nl_15, nl_16, nl_20, nl_21, nl_22, nl_23, nl_24, nl_25, nl_26, nl_27, nl_28, nl_29, nl_30, nl_31, nl_32, nl_40, nl_41, nl_42, nl_43, nl_45, nl_47, nl_48, nl_50, nl_57, nl_59, nl_60, nl_61, nl_62, nl_63, nl_64, nl_91, nl_93, nl_94, nl_97, nl_98, nl_100, nl_110, nl_122, nl_130, nl_144, nl_160, nl_240, nl_241, nl_255, nl_256, nl_400, nl_800, nl_900, nl_999, nl_1000, nl_1001, nl_1024, nl_1103, nl_1928, nl_4321, nl_5560, nl_12345, nl_1000000, nl_1000003, nl_252645135, nl_858993459, nl_1431655765, nl_1000000000, nI_add, pk_mul, n_sub, n_neg, n_cl, leT, leF, ltT, ltF, eqT, eqF, kbT, s_II, s_In, s_IJ, s_IA, s_IL, s_IR, s_IC, s_JI, s_JJ, s_Jn, s_JA, s_JL, s_JR, s_JC, s_AI, s_AJ, s_AA, s_An, s_AL, s_AR, s_AC, s_LI, s_LJ, s_LA, s_LL, s_Ln, s_LR, s_LC, ll_0, ll_1, ll_2, ll_7, ll_8, ll_9, ll_10, ll_20, ll_23, ll_24, ll_26, ll_30, ll_32, ll_48, ll_96, ll_240, ll_256, ll_294, ll_498, ll_999, ll_1000, ll_1103, ll_1476, ll_12345, ll_14836, ll_65536, ll_1000000, ll_1000003, ll_1048576, ll_1000000000, L_leT, L_leF, L_ltT, L_ltF, L_eqT, L_eqF, g5, g6, w2, q3, q4, kB_f]
  · obtain ⟨X, x1, x2, x3⟩ := sum (Fr.refl U)
    have es : soB kd (ds E) (dt E) = (decide (kd ≠ 0) || (ds E).isSome) := by unfold soB; rw [hT]; simp
    refine ⟨X, x1, ?_, fun hb => x3 (by rw [es] at hb; exact hb)⟩
    rw [es]
    unfold f_X12_isSo
    simp (disch := omega) only [k_let, Option.bind_some, ↓reduceIte, eq_self, true_or, or_true, n01_0, n01_1, kb_or, kb_0T, kb_0F, vn_0, vn_1, vn_k, nl_0, nl_1, nl_2, nl_3, nl_4, nl_5, nl_6, nl_7, nl_8, nl_9, nl_10, nl_11, nl_12, nl_13, nl_14, nl_15, nl_16, nl_20, nl_21, nl_22, nl_23, nl_24, nl_25, nl_26, nl_27, nl_28, nl_29, nl_30, nl_31, nl_32, nl_40, nl_41, nl_42, nl_43, nl_45, nl_47, nl_48, nl_50, nl_57, nl_59, nl_60, nl_61, nl_62, nl_63, nl_64, nl_91, nl_93, nl_94, nl_97, nl_98, nl_100, nl_110, nl_122, nl_130, nl_144, nl_160, nl_240, nl_241, nl_255, nl_256, nl_400, nl_800, nl_900, nl_999, nl_1000, nl_1001, nl_1024, nl_1103, nl_1928, nl_4321, nl_5560, nl_12345, nl_1000000, nl_1000003, nl_252645135, nl_858993459, nl_1431655765, nl_1000000000, nI_add, pk_mul, n_sub, n_neg, n_cl, leT, leF, ltT, ltF, eqT, eqF, kbT, s_II, s_In, s_IJ, s_IA, s_IL, s_IR, s_IC, s_JI, s_JJ, s_Jn, s_JA, s_JL, s_JR, s_JC, s_AI, s_AJ, s_AA, s_An, s_AL, s_AR, s_AC, s_LI, s_LJ, s_LA, s_LL, s_Ln, s_LR, s_LC, g5, g6, x2]
theorem vst_so {kd : Nat} {s t : Option Int} {x : Vd} (hk : kd < 3) : vst kd s t x = if soB kd s t = true then (if kd = 0 then (clampN (s.getD 0), x.2) else if kd = 1 then (x.1, x.2.1, true) else (x.1, true, x.2.2)) else x := by
  unfold vst soB
  by_cases ct : t = some 1
  · rw [if_pos ct, decide_eq_true ct, Bool.true_and]
    by_cases ck : kd = 0
    · rw [if_pos ck, if_pos ck]
      cases s with
      | none => simp [ck]
      | some v => simp [ck]
    · rw [if_neg ck, if_neg ck]
      simp [ck]
  · rw [if_neg ct, decide_eq_false ct]
    simp
/-- what the reference holds of debt d, and that of the others it has changed nothing -/
def JdM (S U : St) (d : Nat) (x : Vd) : Prop := gA U 67 d = kB x.2.1 ∧ gA U 68 d = kB x.2.2 ∧ ∀ e, e ≠ d → gA U 66 e = gA S 66 e ∧ gA U 67 e = gA S 67 e ∧ gA U 68 e = gA S 68 e
theorem JdM.fr {S U V : St} {d : Nat} {x : Vd} (h : JdM S U d x) {ci cj ca cl : List Nat} (f : Fr ci cj ca cl U V) (h1 : ca.contains 66 = false) (h2 : ca.contains 67 = false) (h3 : ca.contains 68 = false) : JdM S V d x := by
  unfold JdM
  rw [f.A h1, f.A h2, f.A h3]
  exact h
theorem vt_b (a : Bool) : (kB a = nI 0) = (a = false) := kB_0 a
theorem mj_one {L c kd d : Nat} {g : Nat → Int32} {E : Nat → Int} {ds dt : Den} {S U : St} {x : Vd} {told : Int} (hE : EnvOk E) (hc : c < 12) (hd : d < 16) (hk : kd < 3) (ht : T01 dt) (h : ClM g c kd ds dt) (hA : AtM L g E U) (hx : JdM S U d x) (hw : clampN told = x.1) (htd : okV told) (nc f : Nat) (hn : g 1 = nI nc) (hcn : c < nc) (hnc : nc ≤ 12) :
    ∃ V told', Fr [48] [1, 2] [67, 68] [65] U V ∧ f_X12_askOne_195 (f + 1) (nI d) (lZ told) (nI c) U = f_X12_askOne_195 f (nI d) (lZ told') (nI (c + 1)) V ∧ JdM S V d (vst kd (ds E) (dt E) x) ∧ clampN told' = (vst kd (ds E) (dt E) x).1 ∧ okV told' := by
  obtain ⟨V, v1, v2, v3⟩ := mj_isSo hE hc hk ht h hA
  obtain ⟨A1, A2, A3, A4⟩ := hA
  have h0 := h.1
  have gn : gA U 53 (L + 1) = nI nc := by rw [A3, hn]
  have gk : gA V 53 (L + 2 + 8 * c) = nI kd := by rw [v1.A rfl, Nat.add_assoc, A3, h0]
  have fV : Fr [48] [1, 2] [67, 68] [65] U V := v1.mono rfl rfl rfl rfl
  have jV := hx.fr v1 rfl rfl rfl
  obtain ⟨j1, j2, j3⟩ := jV
  rw [vst_so hk]
  cases hb : soB kd (ds E) (dt E) with
  | false =>
    rw [hb] at v2
    refine ⟨V, told, fV, ?_, by simpa using ⟨j1, j2, j3⟩, by simpa using hw, htd⟩
    rw [f_X12_askOne_195]
    simp (maxSteps := 1000000) (disch := omega) only [k_let, Option.bind_some, ↓reduceIte, eq_self, true_or, or_true, n01_0, n01_1, kb_or, kb_0T, kb_0F, vn_0, vn_1, vn_k, nl_0, nl_1, nl_2, nl_3, nl_4, nl_5, nl_6, nl_7, nl_8, nl_9, nl_10, nl_11, nl_12, nl_13, nl_14, nl_15, nl_16, nl_20, nl_21, nl_22, nl_23, nl_24, nl_25, nl_26, nl_27, nl_28, nl_29, nl_30, nl_31, nl_32, nl_40, nl_41, nl_42, nl_43, nl_45, nl_47, nl_48, nl_50, nl_57, nl_59, nl_60, nl_61, nl_62, nl_63, nl_64, nl_91, nl_93, nl_94, nl_97, nl_98, nl_100, nl_110, nl_122, nl_130, nl_144, nl_160, nl_240, nl_241, nl_255, nl_256, nl_400, nl_800, nl_900, nl_999, nl_1000, nl_1001, nl_1024, nl_1103, nl_1928, nl_4321, nl_5560, nl_12345, nl_1000000, nl_1000003, nl_252645135, nl_858993459, nl_1431655765, nl_1000000000, nI_add, pk_mul, n_sub, n_neg, n_cl, leT, leF, ltT, ltF, eqT, eqF, kbT, s_II, s_In, s_IJ, s_IA, s_IL, s_IR, s_IC, s_JI, s_JJ, s_Jn, s_JA, s_JL, s_JR, s_JC, s_AI, s_AJ, s_AA, s_An, s_AL, s_AR, s_AC, s_LI, s_LJ, s_LA, s_LL, s_Ln, s_LR, s_LC, A1, gn, v2, kB_f, f_X12_askOne_315]
  | true =>
    rw [hb] at v2 v3
    rw [if_pos rfl]
    have : kd = 0 ∨ kd = 1 ∨ kd = 2 := by omega
    rcases this with rfl | rfl | rfl
    · obtain ⟨v, q1, q2, q3⟩ := v3 rfl rfl
      rw [if_pos rfl, q1]
      refine ⟨sA (sA V 68 d (kB x.2.2)) 67 d (kB x.2.1), v, (fV.sA rfl _ _).sA rfl _ _, ?_, ⟨by rw [s_AA, u_s], by rw [s_An (by decide), s_AA, u_s], fun e he => ?_⟩, rfl, q2⟩
      · rw [f_X12_askOne_195]
        cases b1 : x.2.1 <;> cases b2 : x.2.2 <;> rw [b1] at j1 <;> rw [b2] at j2 <;> rw [kB] at j1 j2 <;> simp only [Bool.false_eq_true, ↓reduceIte] at j1 j2 <;>
          simp (maxSteps := 1000000) (disch := omega) only [k_let, Option.bind_some, ↓reduceIte, eq_self, true_or, or_true, n01_0, n01_1, kb_or, kb_0T, kb_0F, vn_0, vn_1, vn_k, nl_0, nl_1, nl_2, nl_3, nl_4, nl_5, nl_6, nl_7, nl_8, nl_9, nl_10, nl_11, nl_12, nl_13, nl_14, nl_15, nl_16, nl_20, nl_21, nl_22, nl_23, nl_24, nl_25, nl_26, nl_27, nl_28, nl_29, nl_30, nl_31, nl_32, nl_40, nl_41, nl_42, nl_43, nl_45, nl_47, nl_48, nl_50, nl_57, nl_59, nl_60, nl_61, nl_62, nl_63, nl_64, nl_91, nl_93, nl_94, nl_97, nl_98, nl_100, nl_110, nl_122, nl_130, nl_144, nl_160, nl_240, nl_241, nl_255, nl_256, nl_400, nl_800, nl_900, nl_999, nl_1000, nl_1001, nl_1024, nl_1103, nl_1928, nl_4321, nl_5560, nl_12345, nl_1000000, nl_1000003, nl_252645135, nl_858993459, nl_1431655765, nl_1000000000, nI_add, pk_mul, n_sub, n_neg, n_cl, leT, leF, ltT, ltF, eqT, eqF, kbT, s_II, s_In, s_IJ, s_IA, s_IL, s_IR, s_IC, s_JI, s_JJ, s_Jn, s_JA, s_JL, s_JR, s_JC, s_AI, s_AJ, s_AA, s_An, s_AL, s_AR, s_AC, s_LI, s_LJ, s_LA, s_LL, s_Ln, s_LR, s_LC, A1, gn, v2, kB_t, kB_f, gk, q3, f_X12_askOne_252, f_X12_askOne_278, f_X12_askOne_283, f_X12_askOne_309, f_X12_askOne_314, f_X12_askOne_315, j1, j2]
      · simp (disch := omega) only [s_II, s_In, s_IJ, s_IA, s_IL, s_IR, s_IC, s_JI, s_JJ, s_Jn, s_JA, s_JL, s_JR, s_JC, s_AI, s_AJ, s_AA, s_An, s_AL, s_AR, s_AC, s_LI, s_LJ, s_LA, s_LL, s_Ln, s_LR, s_LC, u_n]
        exact j3 e he
    · rw [if_neg (by decide), if_pos rfl]
      refine ⟨sA (sA V 68 d (kB true)) 67 d (kB x.2.1), told, (fV.sA rfl _ _).sA rfl _ _, ?_, ⟨by rw [s_AA, u_s], by rw [s_An (by decide), s_AA, u_s], fun e he => ?_⟩, hw, htd⟩
      · rw [f_X12_askOne_195]
        cases b1 : x.2.1 <;> cases b2 : x.2.2 <;> rw [b1] at j1 <;> rw [b2] at j2 <;> rw [kB] at j1 j2 <;> simp only [Bool.false_eq_true, ↓reduceIte] at j1 j2 <;>
          simp (maxSteps := 1000000) (disch := omega) only [k_let, Option.bind_some, ↓reduceIte, eq_self, true_or, or_true, n01_0, n01_1, kb_or, kb_0T, kb_0F, vn_0, vn_1, vn_k, nl_0, nl_1, nl_2, nl_3, nl_4, nl_5, nl_6, nl_7, nl_8, nl_9, nl_10, nl_11, nl_12, nl_13, nl_14, nl_15, nl_16, nl_20, nl_21, nl_22, nl_23, nl_24, nl_25, nl_26, nl_27, nl_28, nl_29, nl_30, nl_31, nl_32, nl_40, nl_41, nl_42, nl_43, nl_45, nl_47, nl_48, nl_50, nl_57, nl_59, nl_60, nl_61, nl_62, nl_63, nl_64, nl_91, nl_93, nl_94, nl_97, nl_98, nl_100, nl_110, nl_122, nl_130, nl_144, nl_160, nl_240, nl_241, nl_255, nl_256, nl_400, nl_800, nl_900, nl_999, nl_1000, nl_1001, nl_1024, nl_1103, nl_1928, nl_4321, nl_5560, nl_12345, nl_1000000, nl_1000003, nl_252645135, nl_858993459, nl_1431655765, nl_1000000000, nI_add, pk_mul, n_sub, n_neg, n_cl, leT, leF, ltT, ltF, eqT, eqF, kbT, s_II, s_In, s_IJ, s_IA, s_IL, s_IR, s_IC, s_JI, s_JJ, s_Jn, s_JA, s_JL, s_JR, s_JC, s_AI, s_AJ, s_AA, s_An, s_AL, s_AR, s_AC, s_LI, s_LJ, s_LA, s_LL, s_Ln, s_LR, s_LC, A1, gn, v2, kB_t, kB_f, gk, f_X12_askOne_252, f_X12_askOne_278, f_X12_askOne_283, f_X12_askOne_309, f_X12_askOne_314, f_X12_askOne_315, j1, j2]
      · simp (disch := omega) only [s_II, s_In, s_IJ, s_IA, s_IL, s_IR, s_IC, s_JI, s_JJ, s_Jn, s_JA, s_JL, s_JR, s_JC, s_AI, s_AJ, s_AA, s_An, s_AL, s_AR, s_AC, s_LI, s_LJ, s_LA, s_LL, s_Ln, s_LR, s_LC, u_n]
        exact j3 e he
    · rw [if_neg (by decide), if_neg (by decide)]
      refine ⟨sA (sA V 68 d (kB x.2.2)) 67 d (kB true), told, (fV.sA rfl _ _).sA rfl _ _, ?_, ⟨by rw [s_AA, u_s], by rw [s_An (by decide), s_AA, u_s], fun e he => ?_⟩, hw, htd⟩
      · rw [f_X12_askOne_195]
        cases b1 : x.2.1 <;> cases b2 : x.2.2 <;> rw [b1] at j1 <;> rw [b2] at j2 <;> rw [kB] at j1 j2 <;> simp only [Bool.false_eq_true, ↓reduceIte] at j1 j2 <;>
          simp (maxSteps := 1000000) (disch := omega) only [k_let, Option.bind_some, ↓reduceIte, eq_self, true_or, or_true, n01_0, n01_1, kb_or, kb_0T, kb_0F, vn_0, vn_1, vn_k, nl_0, nl_1, nl_2, nl_3, nl_4, nl_5, nl_6, nl_7, nl_8, nl_9, nl_10, nl_11, nl_12, nl_13, nl_14, nl_15, nl_16, nl_20, nl_21, nl_22, nl_23, nl_24, nl_25, nl_26, nl_27, nl_28, nl_29, nl_30, nl_31, nl_32, nl_40, nl_41, nl_42, nl_43, nl_45, nl_47, nl_48, nl_50, nl_57, nl_59, nl_60, nl_61, nl_62, nl_63, nl_64, nl_91, nl_93, nl_94, nl_97, nl_98, nl_100, nl_110, nl_122, nl_130, nl_144, nl_160, nl_240, nl_241, nl_255, nl_256, nl_400, nl_800, nl_900, nl_999, nl_1000, nl_1001, nl_1024, nl_1103, nl_1928, nl_4321, nl_5560, nl_12345, nl_1000000, nl_1000003, nl_252645135, nl_858993459, nl_1431655765, nl_1000000000, nI_add, pk_mul, n_sub, n_neg, n_cl, leT, leF, ltT, ltF, eqT, eqF, kbT, s_II, s_In, s_IJ, s_IA, s_IL, s_IR, s_IC, s_JI, s_JJ, s_Jn, s_JA, s_JL, s_JR, s_JC, s_AI, s_AJ, s_AA, s_An, s_AL, s_AR, s_AC, s_LI, s_LJ, s_LA, s_LL, s_Ln, s_LR, s_LC, A1, gn, v2, kB_t, kB_f, gk, f_X12_askOne_252, f_X12_askOne_278, f_X12_askOne_283, f_X12_askOne_309, f_X12_askOne_314, f_X12_askOne_315, j1, j2]
      · simp (disch := omega) only [s_II, s_In, s_IJ, s_IA, s_IL, s_IR, s_IC, s_JI, s_JJ, s_Jn, s_JA, s_JL, s_JR, s_JC, s_AI, s_AJ, s_AA, s_An, s_AL, s_AR, s_AC, s_LI, s_LJ, s_LA, s_LL, s_Ln, s_LR, s_LC, u_n]
        exact j3 e he
