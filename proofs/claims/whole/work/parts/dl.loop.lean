/-! part dl: the clauses of a text, both sides -/
theorem ClY.on {T T' : St} {i c c' kd m : Nat} {ds dt : Den} (h : ClY T i c kd ds dt) (hi : i < m) (h57 : ∀ k, k < 8 * m → gA T' 57 k = gA T 57 k) (hF : ∀ p, p < c → Fx T' p = Fx T p) (hc : c ≤ c') : ClY T' i c' kd ds dt := by
  obtain ⟨g0, x, j, l, g1, g2, g3, g4, g5, g6, g7, g8, g9⟩ := h
  refine ⟨(h57 _ (by omega)).trans g0, x, j, l, by omega, (h57 _ (by omega)).trans g2, (h57 _ (by omega)).trans g3, (h57 _ (by omega)).trans g4, (h57 _ (by omega)).trans g5, g6, g7, fun z => (g8 z).congr (fun p _ hp => hF p (by omega)), ?_⟩
  rcases g9 with ⟨z1, z2⟩ | z
  · exact Or.inl ⟨z1, z2.congr (fun p _ hp => hF p (by omega))⟩
  · exact Or.inr z
theorem ClC.row {a b : Nat → Int32} {i j kd : Nat} {ds dt : Den} (h : ClC a i j kd ds dt) (e : ∀ k, k < 2 * j → b k = a k) : ClC b i j kd ds dt := by
  obtain ⟨h1, h2, h3, m, h4, h5⟩ := h
  have hm := h5.lt
  refine ⟨h1, (e _ (by omega)).trans h2, (e _ (by omega)).trans h3, m, ?_, h5.row e⟩
  by_cases c0 : kd = 0
  · rw [if_pos c0] at h4 ⊢
    exact h4.row (fun k hk => e k (by omega))
  · rw [if_neg c0] at h4 ⊢
    exact h4
/-- m clauses, read by both -/
def Acc (m e c : Nat) (a : Nat → Int32) (U : St) : Prop := ∃ (kd pc : Nat → Nat) (ds dt : Nat → Den), pc 0 = 0 ∧ pc m = e ∧ ∀ i, i < m → pc (i + 1) ≤ e ∧ kd i < 3 ∧ T01 (dt i) ∧ ClC a (pc i) (pc (i + 1)) (kd i) (ds i) (dt i) ∧ ClY U i c (kd i) (ds i) (dt i)
theorem Acc.zero (a : Nat → Int32) (U : St) : Acc 0 0 0 a U := ⟨fun _ => 0, fun _ => 0, fun _ _ => none, fun _ _ => none, rfl, rfl, fun i hi => absurd hi (Nat.not_lt_zero i)⟩
theorem Acc.add {m e c e1 c1 kd : Nat} {a a' : Nat → Int32} {U T : St} {ds dt : Den} (h : Acc m e c a U) (hC : ClC a' e e1 kd ds dt) (hY : ClY T m c1 kd ds dt) (hk : kd < 3) (h01 : T01 dt) (ha : ∀ i, i < 2 * e → a' i = a i) (hF : ∀ p, p < c → Fx T p = Fx U p) (h57 : ∀ i, i < 8 * m → gA T 57 i = gA U 57 i) (hc : c ≤ c1) : Acc (m + 1) e1 c1 a' T := by
  obtain ⟨kd0, pc0, ds0, dt0, p0, p1, h⟩ := h
  have he : e + 1 ≤ e1 := hC.1
  refine ⟨fun i => if i = m then kd else kd0 i, fun i => if i = m + 1 then e1 else pc0 i, fun i => if i = m then ds else ds0 i, fun i => if i = m then dt else dt0 i, (if_neg (by omega)).trans p0, if_pos rfl, fun i hi => ?_⟩
  by_cases q : i = m
  · have a1 : (if i = m then kd else kd0 i) = kd := if_pos q
    have a2 : (if i = m + 1 then e1 else pc0 i) = e := (if_neg (by omega)).trans (q ▸ p1)
    have a3 : (if i + 1 = m + 1 then e1 else pc0 (i + 1)) = e1 := if_pos (by omega)
    have a4 : (if i = m then ds else ds0 i) = ds := if_pos q
    have a5 : (if i = m then dt else dt0 i) = dt := if_pos q
    show (if i + 1 = m + 1 then e1 else pc0 (i + 1)) ≤ e1 ∧ (if i = m then kd else kd0 i) < 3 ∧ T01 (if i = m then dt else dt0 i) ∧ ClC a' (if i = m + 1 then e1 else pc0 i) (if i + 1 = m + 1 then e1 else pc0 (i + 1)) (if i = m then kd else kd0 i) (if i = m then ds else ds0 i) (if i = m then dt else dt0 i) ∧ ClY T i c1 (if i = m then kd else kd0 i) (if i = m then ds else ds0 i) (if i = m then dt else dt0 i)
    rw [a1, a2, a3, a4, a5, q]
    exact ⟨Nat.le_refl _, hk, h01, hC, hY⟩
  · obtain ⟨g1, g2, g3, g4, g5⟩ := h i (by omega)
    have a1 : (if i = m then kd else kd0 i) = kd0 i := if_neg q
    have a2 : (if i = m + 1 then e1 else pc0 i) = pc0 i := if_neg (by omega)
    have a3 : (if i + 1 = m + 1 then e1 else pc0 (i + 1)) = pc0 (i + 1) := if_neg (by omega)
    have a4 : (if i = m then ds else ds0 i) = ds0 i := if_neg q
    have a5 : (if i = m then dt else dt0 i) = dt0 i := if_neg q
    show (if i + 1 = m + 1 then e1 else pc0 (i + 1)) ≤ e1 ∧ (if i = m then kd else kd0 i) < 3 ∧ T01 (if i = m then dt else dt0 i) ∧ ClC a' (if i = m + 1 then e1 else pc0 i) (if i + 1 = m + 1 then e1 else pc0 (i + 1)) (if i = m then kd else kd0 i) (if i = m then ds else ds0 i) (if i = m then dt else dt0 i) ∧ ClY T i c1 (if i = m then kd else kd0 i) (if i = m then ds else ds0 i) (if i = m then dt else dt0 i)
    rw [a1, a2, a3, a4, a5]
    exact ⟨by omega, g2, g3, g4.row (fun k hk => ha k (by omega)), g5.on (m := m) (by omega) h57 hF hc⟩
/-- what is left of a law behind a clause: the class's code is copied, or both have the same fault -/
def LwOk (f : Option (Nat × St)) (g : Option (Int32 × St)) (S0 U0 : St) : Prop := ∃ V T m e c, f = f_J7_copyOf (nI (2 * e)) V ∧ e ≤ 398 ∧ FK S0 V ∧ g = f_X12_law_97 T ∧ FR U0 T ∧ gI T 41 = nI 0 ∧ gI T 42 = nI m ∧ gI T 43 = nI c ∧ c ≤ 400 ∧ m ≤ 12 ∧ Acc m e c (gA V 24) T
def LwNo (f : Option (Nat × St)) (g : Option (Int32 × St)) (S0 U0 : St) : Prop := ∃ V T af, f = some (0, V) ∧ FK S0 V ∧ gI V 15 = nI af ∧ g = f_X12_law_97 T ∧ FRb U0 T ∧ gI T 41 = nI 1 ∧ gI T 40 = nI af
theorem rd_0 {f : Nat} (hf : 0 < f) (x : Int32) (V : St) : f_X7_read_31 f (nI 0) x V = some (0, V) := by
  obtain ⟨f, rfl⟩ : ∃ j, f = j + 1 := ⟨f - 1, by omega⟩
  rw [f_X7_read_31]
  unfold f_X7_read_65 f_X7_read_90 f_X7_read_91
  simp only [k_let, Option.bind_some, ↓reduceIte, eq_self, true_or, or_true, n01_0, n01_1, kb_or, kb_0T, kb_0F, vn_0, vn_1, vn_k, nl_0, nl_1, nl_2, nl_3, nl_4, nl_5, nl_6, nl_7, nl_8, nl_9, nl_10, nl_11, nl_12, nl_13, nl_14, nl_15, nl_16, nl_20, nl_21, nl_22, nl_23, nl_24, nl_25, nl_26, nl_27, nl_28, nl_29, nl_30, nl_31, nl_32, nl_40, nl_41, nl_42, nl_43, nl_45, nl_47, nl_48, nl_50, nl_57, nl_59, nl_60, nl_61, nl_62, nl_63, nl_64, nl_91, nl_93, nl_94, nl_97, nl_98, nl_100, nl_110, nl_122, nl_130, nl_144, nl_160, nl_240, nl_241, nl_255, nl_256, nl_400, nl_800, nl_900, nl_999, nl_1000, nl_1001, nl_1024, nl_1103, nl_1928, nl_4321, nl_5560, nl_12345, nl_1000000, nl_1000003, nl_252645135, nl_858993459, nl_1431655765, nl_1000000000, ite_self]
theorem lw_0 {g : Nat} (hg : 0 < g) {T : St} (h : gI T 41 = nI 1) : f_X12_law_51 g T = f_X12_law_97 T := by
  obtain ⟨g, rfl⟩ : ∃ j, g = j + 1 := ⟨g - 1, by omega⟩
  rw [f_X12_law_51]
  unfold f_X12_law_78
  simp (disch := omega) only [k_let, Option.bind_some, ↓reduceIte, eq_self, true_or, or_true, n01_0, n01_1, kb_or, kb_0T, kb_0F, vn_0, vn_1, vn_k, nl_0, nl_1, nl_2, nl_3, nl_4, nl_5, nl_6, nl_7, nl_8, nl_9, nl_10, nl_11, nl_12, nl_13, nl_14, nl_15, nl_16, nl_20, nl_21, nl_22, nl_23, nl_24, nl_25, nl_26, nl_27, nl_28, nl_29, nl_30, nl_31, nl_32, nl_40, nl_41, nl_42, nl_43, nl_45, nl_47, nl_48, nl_50, nl_57, nl_59, nl_60, nl_61, nl_62, nl_63, nl_64, nl_91, nl_93, nl_94, nl_97, nl_98, nl_100, nl_110, nl_122, nl_130, nl_144, nl_160, nl_240, nl_241, nl_255, nl_256, nl_400, nl_800, nl_900, nl_999, nl_1000, nl_1001, nl_1024, nl_1103, nl_1928, nl_4321, nl_5560, nl_12345, nl_1000000, nl_1000003, nl_252645135, nl_858993459, nl_1431655765, nl_1000000000, nI_add, pk_mul, n_sub, n_neg, n_cl, leT, leF, ltT, ltF, eqT, eqF, kbT, s_II, s_In, s_IJ, s_IA, s_IL, s_IR, s_IC, s_JI, s_JJ, s_Jn, s_JA, s_JL, s_JR, s_JC, s_AI, s_AJ, s_AA, s_An, s_AL, s_AR, s_AC, s_LI, s_LJ, s_LA, s_LL, s_Ln, s_LR, s_LC, h]
theorem lw_end {t : Nat → Nat} {n : Nat} {S0 U0 : St} {f g m a e q c : Nat} {S U : St} (hf : 0 < f) (hg : 0 < g) (hS : Cs t n a e q S) (hm1 : 1 ≤ m) (hm : m ≤ 12) (he : e + 2 ≤ a) (hU : Mc t n a c q m U) (hA : Acc m e c (gA S 24) U) (fS : FK S0 S) (fU : FR U0 U) (hs : isS t n a 59 = false) : LwOk (f_X7_read_31 f (nI 1) (nI (m - 1)) S) (f_X12_law_51 g U) S0 U0 ∨ LwNo (f_X7_read_31 f (nI 1) (nI (m - 1)) S) (f_X12_law_51 g U) S0 U0 := by
  obtain ⟨f, rfl⟩ : ∃ j, f = j + 1 := ⟨f - 1, by omega⟩
  obtain ⟨g, rfl⟩ : ∃ j, g = j + 1 := ⟨g - 1, by omega⟩
  have k4 := kd_4 t n a
  have hn := hS.1.1.1
  have han := hS.1.2.1
  have hc := hU.2.2.2.2.2.1
  have e1 : f_X7_read_31 (f + 1) (nI 1) (nI (m - 1)) S = f_X7_read_65 (nI 1) S := by
    rw [f_X7_read_31]
    simp (disch := omega) only [k_let, Option.bind_some, ↓reduceIte, eq_self, true_or, or_true, n01_0, n01_1, kb_or, kb_0T, kb_0F, vn_0, vn_1, vn_k, nl_0, nl_1, nl_2, nl_3, nl_4, nl_5, nl_6, nl_7, nl_8, nl_9, nl_10, nl_11, nl_12, nl_13, nl_14, nl_15, nl_16, nl_20, nl_21, nl_22, nl_23, nl_24, nl_25, nl_26, nl_27, nl_28, nl_29, nl_30, nl_31, nl_32, nl_40, nl_41, nl_42, nl_43, nl_45, nl_47, nl_48, nl_50, nl_57, nl_59, nl_60, nl_61, nl_62, nl_63, nl_64, nl_91, nl_93, nl_94, nl_97, nl_98, nl_100, nl_110, nl_122, nl_130, nl_144, nl_160, nl_240, nl_241, nl_255, nl_256, nl_400, nl_800, nl_900, nl_999, nl_1000, nl_1001, nl_1024, nl_1103, nl_1928, nl_4321, nl_5560, nl_12345, nl_1000000, nl_1000003, nl_252645135, nl_858993459, nl_1431655765, nl_1000000000, nI_add, pk_mul, n_sub, n_neg, n_cl, leT, leF, ltT, ltF, eqT, eqF, kbT, s_II, s_In, s_IJ, s_IA, s_IL, s_IR, s_IC, s_JI, s_JJ, s_Jn, s_JA, s_JL, s_JR, s_JC, s_AI, s_AJ, s_AA, s_An, s_AL, s_AR, s_AC, s_LI, s_LJ, s_LA, s_LL, s_Ln, s_LR, s_LC, e_seesSign hS.1, hs, kB_f]
  have e2 : f_X12_law_51 (g + 1) U = f_X12_law_78 U := by
    rw [f_X12_law_51]
    simp (disch := omega) only [k_let, Option.bind_some, ↓reduceIte, eq_self, true_or, or_true, n01_0, n01_1, kb_or, kb_0T, kb_0F, vn_0, vn_1, vn_k, nl_0, nl_1, nl_2, nl_3, nl_4, nl_5, nl_6, nl_7, nl_8, nl_9, nl_10, nl_11, nl_12, nl_13, nl_14, nl_15, nl_16, nl_20, nl_21, nl_22, nl_23, nl_24, nl_25, nl_26, nl_27, nl_28, nl_29, nl_30, nl_31, nl_32, nl_40, nl_41, nl_42, nl_43, nl_45, nl_47, nl_48, nl_50, nl_57, nl_59, nl_60, nl_61, nl_62, nl_63, nl_64, nl_91, nl_93, nl_94, nl_97, nl_98, nl_100, nl_110, nl_122, nl_130, nl_144, nl_160, nl_240, nl_241, nl_255, nl_256, nl_400, nl_800, nl_900, nl_999, nl_1000, nl_1001, nl_1024, nl_1103, nl_1928, nl_4321, nl_5560, nl_12345, nl_1000000, nl_1000003, nl_252645135, nl_858993459, nl_1431655765, nl_1000000000, nI_add, pk_mul, n_sub, n_neg, n_cl, leT, leF, ltT, ltF, eqT, eqF, kbT, s_II, s_In, s_IJ, s_IA, s_IL, s_IR, s_IC, s_JI, s_JJ, s_Jn, s_JA, s_JL, s_JR, s_JC, s_AI, s_AJ, s_AA, s_An, s_AL, s_AR, s_AC, s_LI, s_LJ, s_LA, s_LL, s_Ln, s_LR, s_LC, hU.2.1, e_isSign hU.1, hs, kB_f]
  rw [e1, e2]
  have h13 := hS.1.2.2.2.2.1
  have h39 := hU.1.2.2.2.2.1
  by_cases k0 : kd t n a = 0
  · left
    refine ⟨S, U, m, e, c, ?_, by omega, fS, ?_, fU, hU.2.1, hU.2.2.1, hU.2.2.2.1, by omega, hm, hA⟩
    · unfold f_X7_read_65
      simp (disch := omega) only [k_let, Option.bind_some, ↓reduceIte, eq_self, true_or, or_true, n01_0, n01_1, kb_or, kb_0T, kb_0F, vn_0, vn_1, vn_k, nl_0, nl_1, nl_2, nl_3, nl_4, nl_5, nl_6, nl_7, nl_8, nl_9, nl_10, nl_11, nl_12, nl_13, nl_14, nl_15, nl_16, nl_20, nl_21, nl_22, nl_23, nl_24, nl_25, nl_26, nl_27, nl_28, nl_29, nl_30, nl_31, nl_32, nl_40, nl_41, nl_42, nl_43, nl_45, nl_47, nl_48, nl_50, nl_57, nl_59, nl_60, nl_61, nl_62, nl_63, nl_64, nl_91, nl_93, nl_94, nl_97, nl_98, nl_100, nl_110, nl_122, nl_130, nl_144, nl_160, nl_240, nl_241, nl_255, nl_256, nl_400, nl_800, nl_900, nl_999, nl_1000, nl_1001, nl_1024, nl_1103, nl_1928, nl_4321, nl_5560, nl_12345, nl_1000000, nl_1000003, nl_252645135, nl_858993459, nl_1431655765, nl_1000000000, nI_add, pk_mul, n_sub, n_neg, n_cl, leT, leF, ltT, ltF, eqT, eqF, kbT, s_II, s_In, s_IJ, s_IA, s_IL, s_IR, s_IC, s_JI, s_JJ, s_Jn, s_JA, s_JL, s_JR, s_JC, s_AI, s_AJ, s_AA, s_An, s_AL, s_AR, s_AC, s_LI, s_LJ, s_LA, s_LL, s_Ln, s_LR, s_LC, h13, k0, hS.2.1]
    · unfold f_X12_law_78
      simp (disch := omega) only [k_let, Option.bind_some, ↓reduceIte, eq_self, true_or, or_true, n01_0, n01_1, kb_or, kb_0T, kb_0F, vn_0, vn_1, vn_k, nl_0, nl_1, nl_2, nl_3, nl_4, nl_5, nl_6, nl_7, nl_8, nl_9, nl_10, nl_11, nl_12, nl_13, nl_14, nl_15, nl_16, nl_20, nl_21, nl_22, nl_23, nl_24, nl_25, nl_26, nl_27, nl_28, nl_29, nl_30, nl_31, nl_32, nl_40, nl_41, nl_42, nl_43, nl_45, nl_47, nl_48, nl_50, nl_57, nl_59, nl_60, nl_61, nl_62, nl_63, nl_64, nl_91, nl_93, nl_94, nl_97, nl_98, nl_100, nl_110, nl_122, nl_130, nl_144, nl_160, nl_240, nl_241, nl_255, nl_256, nl_400, nl_800, nl_900, nl_999, nl_1000, nl_1001, nl_1024, nl_1103, nl_1928, nl_4321, nl_5560, nl_12345, nl_1000000, nl_1000003, nl_252645135, nl_858993459, nl_1431655765, nl_1000000000, nI_add, pk_mul, n_sub, n_neg, n_cl, leT, leF, ltT, ltF, eqT, eqF, kbT, s_II, s_In, s_IJ, s_IA, s_IL, s_IR, s_IC, s_JI, s_JJ, s_Jn, s_JA, s_JL, s_JR, s_JC, s_AI, s_AJ, s_AA, s_An, s_AL, s_AR, s_AC, s_LI, s_LJ, s_LA, s_LL, s_Ln, s_LR, s_LC, h39, k0, hU.2.1]
  · right
    obtain ⟨T, t1, t2, t3, t4⟩ := e_mustF hU.1 hU.2.1
    refine ⟨S, T, a, ?_, fS, hS.1.2.2.1, ?_, FR.b fU (t2.mono rfl rfl rfl rfl), t3, t4⟩
    · unfold f_X7_read_65 f_X7_read_90 f_X7_read_91
      simp (disch := omega) only [k_let, Option.bind_some, ↓reduceIte, eq_self, true_or, or_true, n01_0, n01_1, kb_or, kb_0T, kb_0F, vn_0, vn_1, vn_k, nl_0, nl_1, nl_2, nl_3, nl_4, nl_5, nl_6, nl_7, nl_8, nl_9, nl_10, nl_11, nl_12, nl_13, nl_14, nl_15, nl_16, nl_20, nl_21, nl_22, nl_23, nl_24, nl_25, nl_26, nl_27, nl_28, nl_29, nl_30, nl_31, nl_32, nl_40, nl_41, nl_42, nl_43, nl_45, nl_47, nl_48, nl_50, nl_57, nl_59, nl_60, nl_61, nl_62, nl_63, nl_64, nl_91, nl_93, nl_94, nl_97, nl_98, nl_100, nl_110, nl_122, nl_130, nl_144, nl_160, nl_240, nl_241, nl_255, nl_256, nl_400, nl_800, nl_900, nl_999, nl_1000, nl_1001, nl_1024, nl_1103, nl_1928, nl_4321, nl_5560, nl_12345, nl_1000000, nl_1000003, nl_252645135, nl_858993459, nl_1431655765, nl_1000000000, nI_add, pk_mul, n_sub, n_neg, n_cl, leT, leF, ltT, ltF, eqT, eqF, kbT, s_II, s_In, s_IJ, s_IA, s_IL, s_IR, s_IC, s_JI, s_JJ, s_Jn, s_JA, s_JL, s_JR, s_JC, s_AI, s_AJ, s_AA, s_An, s_AL, s_AR, s_AC, s_LI, s_LJ, s_LA, s_LL, s_Ln, s_LR, s_LC, h13]
    · unfold f_X12_law_78
      simp (disch := omega) only [k_let, Option.bind_some, ↓reduceIte, eq_self, true_or, or_true, n01_0, n01_1, kb_or, kb_0T, kb_0F, vn_0, vn_1, vn_k, nl_0, nl_1, nl_2, nl_3, nl_4, nl_5, nl_6, nl_7, nl_8, nl_9, nl_10, nl_11, nl_12, nl_13, nl_14, nl_15, nl_16, nl_20, nl_21, nl_22, nl_23, nl_24, nl_25, nl_26, nl_27, nl_28, nl_29, nl_30, nl_31, nl_32, nl_40, nl_41, nl_42, nl_43, nl_45, nl_47, nl_48, nl_50, nl_57, nl_59, nl_60, nl_61, nl_62, nl_63, nl_64, nl_91, nl_93, nl_94, nl_97, nl_98, nl_100, nl_110, nl_122, nl_130, nl_144, nl_160, nl_240, nl_241, nl_255, nl_256, nl_400, nl_800, nl_900, nl_999, nl_1000, nl_1001, nl_1024, nl_1103, nl_1928, nl_4321, nl_5560, nl_12345, nl_1000000, nl_1000003, nl_252645135, nl_858993459, nl_1431655765, nl_1000000000, nI_add, pk_mul, n_sub, n_neg, n_cl, leT, leF, ltT, ltF, eqT, eqF, kbT, s_II, s_In, s_IJ, s_IA, s_IL, s_IR, s_IC, s_JI, s_JJ, s_Jn, s_JA, s_JL, s_JR, s_JC, s_AI, s_AJ, s_AA, s_An, s_AL, s_AR, s_AC, s_LI, s_LJ, s_LA, s_LL, s_Ln, s_LR, s_LC, h39, hU.2.1, t1]
theorem lw_loop {t : Nat → Nat} {n : Nat} {S0 U0 : St} : ∀ (k f g m a e q c : Nat) (S U : St), n - a ≤ k → k < f → k < g → Cs t n a e q S → gI S 12 = nI m → 1 ≤ m → m ≤ 12 → e + 2 ≤ a → Mc t n a c q m U → Acc m e c (gA S 24) U → FK S0 S → FR U0 U → LwOk (f_X7_read_31 f (nI 1) (nI (m - 1)) S) (f_X12_law_51 g U) S0 U0 ∨ LwNo (f_X7_read_31 f (nI 1) (nI (m - 1)) S) (f_X12_law_51 g U) S0 U0 := by
  intro k
  induction k with
  | zero =>
    intro f g m a e q c S U hk hf hg hS h12 hm1 hm he hU hA fS fU
    refine lw_end hf hg hS hm1 hm he hU hA fS fU (Bool.eq_false_iff.mpr fun z => ?_)
    have := kd_lt (t := t) (n := n) (a := a) (by rw [(isS_kd z).1]; decide)
    omega
  | succ k ih =>
    intro f g m a e q c S U hk hf hg hS h12 hm1 hm he hU hA fS fU
    by_cases hs : isS t n a 59 = true
    · have hx := tnx_lt (t := t) (n := n) (a := a) (by rw [(isS_kd hs).1]; decide)
      obtain ⟨f, rfl⟩ : ∃ j, f = j + 1 := ⟨f - 1, by omega⟩
      obtain ⟨g, rfl⟩ : ∃ j, g = j + 1 := ⟨g - 1, by omega⟩
      obtain ⟨S1, a1, a2, a3⟩ := hS.step
      obtain ⟨U1, b1, b2, b3⟩ := hU.1.next
      have hU1 : Mc t n (tnx t n a) c q m U1 := ⟨b3, (b2.I rfl).trans hU.2.1, (b2.I rfl).trans hU.2.2.1, (b2.I rfl).trans hU.2.2.2.1, (b2.I rfl).trans hU.2.2.2.2.1, by have := hU.2.2.2.2.2.1; omega, fun i hi => by rw [b2.L rfl]; exact hU.2.2.2.2.2.2.1 i hi, fun i hi => by rw [b2.L rfl]; exact hU.2.2.2.2.2.2.2 i hi⟩
      have e1 : f_X7_read_31 (f + 1) (nI 1) (nI (m - 1)) S = (f_X7_readClause S1).bind fun q55 => f_X7_read_31 f q55.1 (nI m) q55.2 := by
        rw [f_X7_read_31]
        simp (disch := omega) only [k_let, Option.bind_some, ↓reduceIte, eq_self, true_or, or_true, n01_0, n01_1, kb_or, kb_0T, kb_0F, vn_0, vn_1, vn_k, nl_0, nl_1, nl_2, nl_3, nl_4, nl_5, nl_6, nl_7, nl_8, nl_9, nl_10, nl_11, nl_12, nl_13, nl_14, nl_15, nl_16, nl_20, nl_21, nl_22, nl_23, nl_24, nl_25, nl_26, nl_27, nl_28, nl_29, nl_30, nl_31, nl_32, nl_40, nl_41, nl_42, nl_43, nl_45, nl_47, nl_48, nl_50, nl_57, nl_59, nl_60, nl_61, nl_62, nl_63, nl_64, nl_91, nl_93, nl_94, nl_97, nl_98, nl_100, nl_110, nl_122, nl_130, nl_144, nl_160, nl_240, nl_241, nl_255, nl_256, nl_400, nl_800, nl_900, nl_999, nl_1000, nl_1001, nl_1024, nl_1103, nl_1928, nl_4321, nl_5560, nl_12345, nl_1000000, nl_1000003, nl_252645135, nl_858993459, nl_1431655765, nl_1000000000, nI_add, pk_mul, n_sub, n_neg, n_cl, leT, leF, ltT, ltF, eqT, eqF, kbT, s_II, s_In, s_IJ, s_IA, s_IL, s_IR, s_IC, s_JI, s_JJ, s_Jn, s_JA, s_JL, s_JR, s_JC, s_AI, s_AJ, s_AA, s_An, s_AL, s_AR, s_AC, s_LI, s_LJ, s_LA, s_LL, s_Ln, s_LR, s_LC, e_seesSign hS.1, hs, kB_t, a1]
        rw [show m - 1 + 1 = m by omega]
      have e2 : f_X12_law_51 (g + 1) U = (f_X12_readClause U1).bind fun q72 => f_X12_law_51 g q72 := by
        rw [f_X12_law_51]
        simp (disch := omega) only [k_let, Option.bind_some, ↓reduceIte, eq_self, true_or, or_true, n01_0, n01_1, kb_or, kb_0T, kb_0F, vn_0, vn_1, vn_k, nl_0, nl_1, nl_2, nl_3, nl_4, nl_5, nl_6, nl_7, nl_8, nl_9, nl_10, nl_11, nl_12, nl_13, nl_14, nl_15, nl_16, nl_20, nl_21, nl_22, nl_23, nl_24, nl_25, nl_26, nl_27, nl_28, nl_29, nl_30, nl_31, nl_32, nl_40, nl_41, nl_42, nl_43, nl_45, nl_47, nl_48, nl_50, nl_57, nl_59, nl_60, nl_61, nl_62, nl_63, nl_64, nl_91, nl_93, nl_94, nl_97, nl_98, nl_100, nl_110, nl_122, nl_130, nl_144, nl_160, nl_240, nl_241, nl_255, nl_256, nl_400, nl_800, nl_900, nl_999, nl_1000, nl_1001, nl_1024, nl_1103, nl_1928, nl_4321, nl_5560, nl_12345, nl_1000000, nl_1000003, nl_252645135, nl_858993459, nl_1431655765, nl_1000000000, nI_add, pk_mul, n_sub, n_neg, n_cl, leT, leF, ltT, ltF, eqT, eqF, kbT, s_II, s_In, s_IJ, s_IA, s_IL, s_IR, s_IC, s_JI, s_JJ, s_Jn, s_JA, s_JL, s_JR, s_JC, s_AI, s_AJ, s_AA, s_An, s_AL, s_AR, s_AC, s_LI, s_LJ, s_LA, s_LL, s_Ln, s_LR, s_LC, hU.2.1, e_isSign hU.1, hs, kB_t, b1]
      have fS1 : FK S0 S1 := fS.trans (a2.mono rfl rfl rfl rfl)
      have fU1 : FR U0 U1 := fU.trans (b2.mono rfl rfl rfl rfl)
      rw [e1, e2]
      rcases cl_both a3 ((a2.I rfl).trans h12) hm (by omega) hU1 with ⟨V, a4, e4, q4, T, c4, kd4, ds, dt, r1, r2, r3, r4, r5, r6, ⟨r7, r8, r9⟩, y1, y2, y3, y4, y5, y6, y7, y8, y9⟩ | ⟨V, T, af, r1, r2, r3, r4, r5, r6, r7⟩
      · rw [r1, y4, Option.bind_some, Option.bind_some]
        have hA1 : Acc m e c (gA S1 24) U1 := by
          obtain ⟨kd0, pc0, ds0, dt0, p0, p1, h⟩ := hA
          refine ⟨kd0, pc0, ds0, dt0, p0, p1, fun i hi => ?_⟩
          obtain ⟨g1, g2, g3, g4, g5⟩ := h i hi
          exact ⟨g1, g2, g3, g4.row (fun k _ => by rw [a2.A rfl]), g5.on hi (fun k _ => by rw [b2.A rfl]) (fun p _ => by rw [Fx.fr b2 rfl rfl]) (Nat.le_refl _)⟩
        have := ih f g (m + 1) a4 e4 q4 c4 V T (by omega) (by omega) (by omega) r2 r3 (by omega) (by omega) (by omega) y5 (hA1.add y3 y9 y1 y2 r6 y7 y8 r9) (fS1.trans r5) (fU1.trans y6)
        rw [Nat.add_sub_cancel] at this
        exact this
      · right
        rw [r1, r4, Option.bind_some, Option.bind_some]
        exact ⟨V, T, af, rd_0 (by omega) _ _, fS1.trans r2, r3, lw_0 (by omega) r6, FR.b fU1 r5, r6, r7⟩
    · exact lw_end (by omega) (by omega) hS hm1 hm he hU hA fS fU (Bool.eq_false_iff.mpr hs)
