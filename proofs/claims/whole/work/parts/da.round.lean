/-! part da: the reference's round brackets; the end of an expression -/
theorem e_rdc {t : Nat → Nat} {n a c q o : Nat} {P K : Pi_} {U : St} (hM : Mxp t n a a c q (o + 1) (P ++ (30, 0) :: K) U) (hs : isS t n a 41 = true) (hP : ∀ x, x ∈ P → 1 ≤ bn x.1) (h8 : o < 8) : ∃ T, f_X12_behindTest U = some (nI 2, T) ∧ Mxp t n (tnx t n a) (tnx t n a) (fin_ (Fx U) c P).2 q o K T ∧ FM U T ∧ Fx T = (fin_ (Fx U) c P).1 ∧ c ≤ (fin_ (Fx U) c P).2 := by
  have hx := tnx_lt (t := t) (n := n) (a := a) (by rw [(isS_kd hs).1]; decide)
  obtain ⟨T1, e1, m1, f1, x1⟩ := hM.must (by omega)
  have hl := hM.lt.1
  rw [← x1]
  obtain ⟨T2, e2, m2, f2, x2, c2, -, -⟩ := m1.settle (L := 1) (by omega) hP (tpL.cons (by decide))
  obtain ⟨m3, f3, x3⟩ := m2.pop
  obtain ⟨m4, f4, x4⟩ := m3.s46 o
  refine ⟨_, ?_, m4, ((f1.trans f2).trans f3).trans f4, by rw [x4, x3, x2], c2⟩
  have hinn : innI (P ++ (30, 0) :: K) = nI 30 := by
    unfold innI
    rw [inn_app hP]
    rfl
  have h45 : gI T2 45 = nI (K.length + 1) := m2.2.2.2.2.1
  have h46 : gI T2 46 = nI (o + 1) := m2.2.2.2.2.2.1
  have hK : K.length < 400 := by have : (P ++ (30, 0) :: K).length = P.length + (K.length + 1) := List.length_append; omega
  have w4 : f_X12_isWord (1476 : Int64) U = some (kB (isW t n a 4), U) := e_isWord (i := 4) hM.1 (by decide)
  have w5 : f_X12_isWord (498 : Int64) U = some (kB (isW t n a 5), U) := e_isWord (i := 5) hM.1 (by decide)
  unfold f_X12_behindTest f_X12_behindTest_128
  rw [w4, isW_no hs]
  simp (disch := omega) only [k_let, Option.bind_some, ↓reduceIte, eq_self, true_or, or_true, n01_0, n01_1, kb_or, kb_0T, kb_0F, vn_0, vn_1, vn_k, nl_0, nl_1, nl_2, nl_3, nl_4, nl_5, nl_6, nl_7, nl_8, nl_9, nl_10, nl_11, nl_12, nl_13, nl_14, nl_15, nl_16, nl_20, nl_21, nl_22, nl_23, nl_24, nl_25, nl_26, nl_27, nl_28, nl_29, nl_30, nl_31, nl_32, nl_40, nl_41, nl_42, nl_43, nl_45, nl_47, nl_48, nl_50, nl_57, nl_59, nl_60, nl_61, nl_62, nl_63, nl_64, nl_91, nl_93, nl_94, nl_97, nl_98, nl_100, nl_110, nl_122, nl_130, nl_144, nl_160, nl_240, nl_241, nl_255, nl_256, nl_400, nl_800, nl_900, nl_999, nl_1000, nl_1001, nl_1024, nl_1103, nl_1928, nl_4321, nl_5560, nl_12345, nl_1000000, nl_1000003, nl_252645135, nl_858993459, nl_1431655765, nl_1000000000, kB_f]
  rw [w5, isW_no hs]
  simp (disch := omega) only [k_let, Option.bind_some, ↓reduceIte, eq_self, true_or, or_true, n01_0, n01_1, kb_or, kb_0T, kb_0F, vn_0, vn_1, vn_k, nl_0, nl_1, nl_2, nl_3, nl_4, nl_5, nl_6, nl_7, nl_8, nl_9, nl_10, nl_11, nl_12, nl_13, nl_14, nl_15, nl_16, nl_20, nl_21, nl_22, nl_23, nl_24, nl_25, nl_26, nl_27, nl_28, nl_29, nl_30, nl_31, nl_32, nl_40, nl_41, nl_42, nl_43, nl_45, nl_47, nl_48, nl_50, nl_57, nl_59, nl_60, nl_61, nl_62, nl_63, nl_64, nl_91, nl_93, nl_94, nl_97, nl_98, nl_100, nl_110, nl_122, nl_130, nl_144, nl_160, nl_240, nl_241, nl_255, nl_256, nl_400, nl_800, nl_900, nl_999, nl_1000, nl_1001, nl_1024, nl_1103, nl_1928, nl_4321, nl_5560, nl_12345, nl_1000000, nl_1000003, nl_252645135, nl_858993459, nl_1431655765, nl_1000000000, kB_f]
  rw [e_inner hM.2.2.2.2.2.2.1 hM.2.2.2.2.2.2.2.1 hM.2.2.2.2.1 hl, hinn]
  simp (disch := omega) only [k_let, Option.bind_some, ↓reduceIte, eq_self, true_or, or_true, n01_0, n01_1, kb_or, kb_0T, kb_0F, vn_0, vn_1, vn_k, nl_0, nl_1, nl_2, nl_3, nl_4, nl_5, nl_6, nl_7, nl_8, nl_9, nl_10, nl_11, nl_12, nl_13, nl_14, nl_15, nl_16, nl_20, nl_21, nl_22, nl_23, nl_24, nl_25, nl_26, nl_27, nl_28, nl_29, nl_30, nl_31, nl_32, nl_40, nl_41, nl_42, nl_43, nl_45, nl_47, nl_48, nl_50, nl_57, nl_59, nl_60, nl_61, nl_62, nl_63, nl_64, nl_91, nl_93, nl_94, nl_97, nl_98, nl_100, nl_110, nl_122, nl_130, nl_144, nl_160, nl_240, nl_241, nl_255, nl_256, nl_400, nl_800, nl_900, nl_999, nl_1000, nl_1001, nl_1024, nl_1103, nl_1928, nl_4321, nl_5560, nl_12345, nl_1000000, nl_1000003, nl_252645135, nl_858993459, nl_1431655765, nl_1000000000, nI_add, pk_mul, n_sub, n_neg, n_cl, leT, leF, ltT, ltF, eqT, eqF, kbT, s_II, s_In, s_IJ, s_IA, s_IL, s_IR, s_IC, s_JI, s_JJ, s_Jn, s_JA, s_JL, s_JR, s_JC, s_AI, s_AJ, s_AA, s_An, s_AL, s_AR, s_AC, s_LI, s_LJ, s_LA, s_LL, s_Ln, s_LR, s_LC, zleT, zleF, zltT, zltF, zeqT, zeqF, nzleT, nzleF, nzltT, nzltF, nzeqT, nzeqF, znleT, znleF, znltT, znltF, zneqT, zneqF, z_add, z_sub, z_mul, z_neg, z_an, z_na, z_sn, z_ns, z_mn, z_nm, e_isSign hM.1, hs, kB_t, e1, m1.2.1, e2, h45, h46, Nat.add_sub_cancel]
theorem r_open {t : Nat → Nat} {n a c q d tb : Nat} {K : Pi_} {U : St} (hM : Mxp t n a a c q d K U) (hs : isS t n a 40 = true) (h8 : d < 8) : ∃ T, Lp tb 1 0 0 U T ∧ Mxp t n (tnx t n a) (tnx t n a) c q (d + 1) ((30, 0) :: K) T ∧ FM U T ∧ Fx T = Fx U := by
  obtain ⟨T, e, m0, f0, x0⟩ := e_open (op := 30) (Or.inl rfl) hM (by rw [(isS_kd hs).1]; decide) h8
  refine ⟨T, lq0 hM.2.1 ?_, m0, f0, x0⟩
  have e3 : f_X12_isWord (14836 : Int64) U = some (kB (isW t n a 3), U) := e_isWord (i := 3) hM.1 (by decide)
  unfold f_X12_readPlain
  rw [e3, isW_no hs]
  simp (disch := omega) only [k_let, Option.bind_some, ↓reduceIte, eq_self, true_or, or_true, n01_0, n01_1, kb_or, kb_0T, kb_0F, vn_0, vn_1, vn_k, nl_0, nl_1, nl_2, nl_3, nl_4, nl_5, nl_6, nl_7, nl_8, nl_9, nl_10, nl_11, nl_12, nl_13, nl_14, nl_15, nl_16, nl_20, nl_21, nl_22, nl_23, nl_24, nl_25, nl_26, nl_27, nl_28, nl_29, nl_30, nl_31, nl_32, nl_40, nl_41, nl_42, nl_43, nl_45, nl_47, nl_48, nl_50, nl_57, nl_59, nl_60, nl_61, nl_62, nl_63, nl_64, nl_91, nl_93, nl_94, nl_97, nl_98, nl_100, nl_110, nl_122, nl_130, nl_144, nl_160, nl_240, nl_241, nl_255, nl_256, nl_400, nl_800, nl_900, nl_999, nl_1000, nl_1001, nl_1024, nl_1103, nl_1928, nl_4321, nl_5560, nl_12345, nl_1000000, nl_1000003, nl_252645135, nl_858993459, nl_1431655765, nl_1000000000, leT, leF, ltT, ltF, eqT, eqF, kbT, kB_f, e_isSign hM.1, hs, kB_t, e]
theorem Cx.rd (tb : Nat) (K : Pi_) : Cx tb ((30, 0) :: K) := Or.inl rfl
theorem MOk.rd {t : Nat → Nat} {n tb d a q a1 q1 : Nat} {δ : Den} (hs : isS t n a 40 = true) (h8 : d < 8) (h : MOk t n tb 0 2 1 1 (d + 1) (tnx t n a) q a1 q1 δ) (hs1 : isS t n a1 41 = true) : MOk t n tb 0 2 4 3 d a q (tnx t n a1) q1 δ := by
  have hx := tnx_lt (t := t) (n := n) (a := a) (by rw [(isS_kd hs).1]; decide)
  have hx1 := tnx_lt (t := t) (n := n) (a := a1) (by rw [(isS_kd hs1).1]; decide)
  intro c K U hM _ _
  obtain ⟨T, r0, m0, f0, x0⟩ := r_open (tb := tb) hM hs h8
  obtain ⟨k1, c1, P1, U1, r1, m1, p1, f1, lo1, lc1, cm1, kk1, kb1⟩ := h c ((30, 0) :: K) T m0 (tpL.cons (by decide)) (fun _ => Cx.rd tb K)
  obtain ⟨V, e2, m2, f2, x2, lc2⟩ := e_rdc m1 hs1 (fun x hx => (p1 x hx).1) h8
  have r2 := lq2 (tb := tb) m1.2.1 e2
  refine ⟨1 + k1 + 1, _, [], V, (r0.trans r1).trans r2, m2, fun x hx => absurd hx List.not_mem_nil, (f0.trans f1).trans f2, fun p hp => ?_, by omega, ?_, by omega, by omega⟩
  · rw [x2, fin_lo P1 (Fx U1) c1 c lc1 (fun x hx => (p1 x hx).2) p hp, lo1 p hp, x0]
  · show Cm (Fx V) c _ δ _
    rw [x2]
    exact cm1
theorem MFl.rd0 {t : Nat → Nat} {n tb d a q : Nat} (hs : isS t n a 40 = true) (h8 : 8 ≤ d) (h9 : d < 1000) : MFl t n tb 0 2 4 d a q a := by
  intro c K U hM _ _
  have han := hM.1.2.1
  obtain ⟨T, e, r1, r2, r3, r4, r5, r6, r7, r8⟩ := e_openF (nI 30) hM h8 h9
  refine ⟨1, 0, T, c, K, by omega, lq0 hM.2.1 ?_, r1, r2, r3, r4, r5, r6, r7, r8⟩
  have e3 : f_X12_isWord (14836 : Int64) U = some (kB (isW t n a 3), U) := e_isWord (i := 3) hM.1 (by decide)
  unfold f_X12_readPlain
  rw [e3, isW_no hs]
  simp (disch := omega) only [k_let, Option.bind_some, ↓reduceIte, eq_self, true_or, or_true, n01_0, n01_1, kb_or, kb_0T, kb_0F, vn_0, vn_1, vn_k, nl_0, nl_1, nl_2, nl_3, nl_4, nl_5, nl_6, nl_7, nl_8, nl_9, nl_10, nl_11, nl_12, nl_13, nl_14, nl_15, nl_16, nl_20, nl_21, nl_22, nl_23, nl_24, nl_25, nl_26, nl_27, nl_28, nl_29, nl_30, nl_31, nl_32, nl_40, nl_41, nl_42, nl_43, nl_45, nl_47, nl_48, nl_50, nl_57, nl_59, nl_60, nl_61, nl_62, nl_63, nl_64, nl_91, nl_93, nl_94, nl_97, nl_98, nl_100, nl_110, nl_122, nl_130, nl_144, nl_160, nl_240, nl_241, nl_255, nl_256, nl_400, nl_800, nl_900, nl_999, nl_1000, nl_1001, nl_1024, nl_1103, nl_1928, nl_4321, nl_5560, nl_12345, nl_1000000, nl_1000003, nl_252645135, nl_858993459, nl_1431655765, nl_1000000000, leT, leF, ltT, ltF, eqT, eqF, kbT, kB_f, e_isSign hM.1, hs, kB_t, e]
theorem MFl.rd1 {t : Nat → Nat} {n tb d a q af : Nat} (hs : isS t n a 40 = true) (h8 : d < 8) (h : MFl t n tb 0 2 1 (d + 1) (tnx t n a) q af) : MFl t n tb 0 2 4 d a q af := by
  have hx := tnx_lt (t := t) (n := n) (a := a) (by rw [(isS_kd hs).1]; decide)
  intro c K U hM _ _
  obtain ⟨T, r0, m0, f0, x0⟩ := r_open (tb := tb) hM hs h8
  exact (h c ((30, 0) :: K) T m0 (tpL.cons (by decide)) (fun _ => Cx.rd tb K)).pre r0 (by omega) f0
theorem MFl.rd2 {t : Nat → Nat} {n tb d a q a1 q1 : Nat} {δ : Den} (hs : isS t n a 40 = true) (h8 : d < 8) (h : MOk t n tb 0 2 1 1 (d + 1) (tnx t n a) q a1 q1 δ) (h4 : isW t n a1 4 = false) (h5 : isW t n a1 5 = false) (hs1 : isS t n a1 41 = false) : MFl t n tb 0 2 4 d a q a1 := by
  have hx := tnx_lt (t := t) (n := n) (a := a) (by rw [(isS_kd hs).1]; decide)
  intro c K U hM _ _
  obtain ⟨T, r0, m0, f0, x0⟩ := r_open (tb := tb) hM hs h8
  obtain ⟨k1, c1, P1, U1, r1, m1, p1, f1, lo1, lc1, cm1, kk1, kb1⟩ := h c ((30, 0) :: K) T m0 (tpL.cons (by decide)) (fun _ => Cx.rd tb K)
  have ha1 := m1.1.2.1
  have hl := m1.lt.1
  obtain ⟨V, e2, v1, v2, v3, v4, v5, v6, v7, v8⟩ := m1.bad
  have hinn : innI (P1 ++ (30, 0) :: K) = nI 30 := by
    unfold innI
    rw [inn_app (fun x hx => (p1 x hx).1)]
    rfl
  have w4 : f_X12_isWord (1476 : Int64) U1 = some (kB (isW t n a1 4), U1) := e_isWord (i := 4) m1.1 (by decide)
  have w5 : f_X12_isWord (498 : Int64) U1 = some (kB (isW t n a1 5), U1) := e_isWord (i := 5) m1.1 (by decide)
  have r2 : Lp tb 1 2 2 U1 V := lq2 m1.2.1 (by
    unfold f_X12_behindTest f_X12_behindTest_128
    rw [w4, h4]
    simp (disch := omega) only [k_let, Option.bind_some, ↓reduceIte, eq_self, true_or, or_true, n01_0, n01_1, kb_or, kb_0T, kb_0F, vn_0, vn_1, vn_k, nl_0, nl_1, nl_2, nl_3, nl_4, nl_5, nl_6, nl_7, nl_8, nl_9, nl_10, nl_11, nl_12, nl_13, nl_14, nl_15, nl_16, nl_20, nl_21, nl_22, nl_23, nl_24, nl_25, nl_26, nl_27, nl_28, nl_29, nl_30, nl_31, nl_32, nl_40, nl_41, nl_42, nl_43, nl_45, nl_47, nl_48, nl_50, nl_57, nl_59, nl_60, nl_61, nl_62, nl_63, nl_64, nl_91, nl_93, nl_94, nl_97, nl_98, nl_100, nl_110, nl_122, nl_130, nl_144, nl_160, nl_240, nl_241, nl_255, nl_256, nl_400, nl_800, nl_900, nl_999, nl_1000, nl_1001, nl_1024, nl_1103, nl_1928, nl_4321, nl_5560, nl_12345, nl_1000000, nl_1000003, nl_252645135, nl_858993459, nl_1431655765, nl_1000000000, kB_f]
    rw [w5, h5]
    simp (disch := omega) only [k_let, Option.bind_some, ↓reduceIte, eq_self, true_or, or_true, n01_0, n01_1, kb_or, kb_0T, kb_0F, vn_0, vn_1, vn_k, nl_0, nl_1, nl_2, nl_3, nl_4, nl_5, nl_6, nl_7, nl_8, nl_9, nl_10, nl_11, nl_12, nl_13, nl_14, nl_15, nl_16, nl_20, nl_21, nl_22, nl_23, nl_24, nl_25, nl_26, nl_27, nl_28, nl_29, nl_30, nl_31, nl_32, nl_40, nl_41, nl_42, nl_43, nl_45, nl_47, nl_48, nl_50, nl_57, nl_59, nl_60, nl_61, nl_62, nl_63, nl_64, nl_91, nl_93, nl_94, nl_97, nl_98, nl_100, nl_110, nl_122, nl_130, nl_144, nl_160, nl_240, nl_241, nl_255, nl_256, nl_400, nl_800, nl_900, nl_999, nl_1000, nl_1001, nl_1024, nl_1103, nl_1928, nl_4321, nl_5560, nl_12345, nl_1000000, nl_1000003, nl_252645135, nl_858993459, nl_1431655765, nl_1000000000, kB_f]
    rw [e_inner m1.2.2.2.2.2.2.1 m1.2.2.2.2.2.2.2.1 m1.2.2.2.2.1 hl, hinn]
    simp (disch := omega) only [k_let, Option.bind_some, ↓reduceIte, eq_self, true_or, or_true, n01_0, n01_1, kb_or, kb_0T, kb_0F, vn_0, vn_1, vn_k, nl_0, nl_1, nl_2, nl_3, nl_4, nl_5, nl_6, nl_7, nl_8, nl_9, nl_10, nl_11, nl_12, nl_13, nl_14, nl_15, nl_16, nl_20, nl_21, nl_22, nl_23, nl_24, nl_25, nl_26, nl_27, nl_28, nl_29, nl_30, nl_31, nl_32, nl_40, nl_41, nl_42, nl_43, nl_45, nl_47, nl_48, nl_50, nl_57, nl_59, nl_60, nl_61, nl_62, nl_63, nl_64, nl_91, nl_93, nl_94, nl_97, nl_98, nl_100, nl_110, nl_122, nl_130, nl_144, nl_160, nl_240, nl_241, nl_255, nl_256, nl_400, nl_800, nl_900, nl_999, nl_1000, nl_1001, nl_1024, nl_1103, nl_1928, nl_4321, nl_5560, nl_12345, nl_1000000, nl_1000003, nl_252645135, nl_858993459, nl_1431655765, nl_1000000000, nI_add, pk_mul, n_sub, n_neg, n_cl, leT, leF, ltT, ltF, eqT, eqF, kbT, s_II, s_In, s_IJ, s_IA, s_IL, s_IR, s_IC, s_JI, s_JJ, s_Jn, s_JA, s_JL, s_JR, s_JC, s_AI, s_AJ, s_AA, s_An, s_AL, s_AR, s_AC, s_LI, s_LJ, s_LA, s_LL, s_Ln, s_LR, s_LC, zleT, zleF, zltT, zltF, zeqT, zeqF, nzleT, nzleF, nzltT, nzltF, nzeqT, nzeqF, znleT, znleF, znltT, znltF, zneqT, zneqF, z_add, z_sub, z_mul, z_neg, z_an, z_na, z_sn, z_ns, z_mn, z_nm, e_isSign m1.1, hs1, kB_f, e2, v1])
  exact ⟨1 + k1 + 1, 2, V, _, _, by omega, (r0.trans r1).trans r2, v1, v2, v3, v4, v5, v6, v7, FM.b (f0.trans f1) v8⟩
/-- the whole expression: a sum of a clause -/
theorem m_sum {t : Nat → Nat} {n a q a1 q1 c : Nat} {δ : Den} {U : St} (hM : Mxp t n a a c q 0 [] U) (h : MOk t n 0 1 3 5 5 0 a q a1 q1 δ) (hN : NoA t n a1) : ∃ T c1, f_X12_readExpression_20 FU (nI 0) (nI 1) U = some T ∧ Mxp t n a1 a1 c1 q1 0 [] T ∧ FM U T ∧ (∀ p, p < c → Fx T p = Fx U p) ∧ Cm (Fx T) c c1 δ (q1 - q) := by
  have F1 : 1000000 < FU := FU_ge (by decide)
  obtain ⟨k1, c1, P1, U1, r1, m1, p1, f1, lo1, lc1, cm1, kk1, kb1⟩ := h c [] U hM (fun x K z => by cases z) (fun z => absurd z (by decide))
  have hn := m1.1.1.1
  have ha1 := m1.1.2.1
  have hl := m1.lt.1
  have hinn : innI (P1 ++ []) = iZ (-1) := by
    unfold innI
    rw [inn_app (fun x hx => by have := (p1 x hx).1; omega)]
    rfl
  have r2 : Lp 0 1 3 4 U1 U1 := lq3 m1.2.1 (by
    rw [e_bs_no m1.1 hN]
    unfold f_X12_behindSum_57
    rw [e_inner m1.2.2.2.2.2.2.1 m1.2.2.2.2.2.2.2.1 m1.2.2.2.2.1 hl, hinn]
    simp (disch := omega) only [k_let, Option.bind_some, ↓reduceIte, eq_self, true_or, or_true, n01_0, n01_1, kb_or, kb_0T, kb_0F, vn_0, vn_1, vn_k, nl_0, nl_1, nl_2, nl_3, nl_4, nl_5, nl_6, nl_7, nl_8, nl_9, nl_10, nl_11, nl_12, nl_13, nl_14, nl_15, nl_16, nl_20, nl_21, nl_22, nl_23, nl_24, nl_25, nl_26, nl_27, nl_28, nl_29, nl_30, nl_31, nl_32, nl_40, nl_41, nl_42, nl_43, nl_45, nl_47, nl_48, nl_50, nl_57, nl_59, nl_60, nl_61, nl_62, nl_63, nl_64, nl_91, nl_93, nl_94, nl_97, nl_98, nl_100, nl_110, nl_122, nl_130, nl_144, nl_160, nl_240, nl_241, nl_255, nl_256, nl_400, nl_800, nl_900, nl_999, nl_1000, nl_1001, nl_1024, nl_1103, nl_1928, nl_4321, nl_5560, nl_12345, nl_1000000, nl_1000003, nl_252645135, nl_858993459, nl_1431655765, nl_1000000000, nI_add, pk_mul, n_sub, n_neg, n_cl, leT, leF, ltT, ltF, eqT, eqF, kbT, s_II, s_In, s_IJ, s_IA, s_IL, s_IR, s_IC, s_JI, s_JJ, s_Jn, s_JA, s_JL, s_JR, s_JC, s_AI, s_AJ, s_AA, s_An, s_AL, s_AR, s_AC, s_LI, s_LJ, s_LA, s_LL, s_Ln, s_LR, s_LC, zleT, zleF, zltT, zltF, zeqT, zeqF, nzleT, nzleF, nzltT, nzltF, nzeqT, nzeqF, znleT, znleF, znltT, znltF, zneqT, zneqF, z_add, z_sub, z_mul, z_neg, z_an, z_na, z_sn, z_ns, z_mn, z_nm])
  obtain ⟨T, e3, m3, f3, x3, c3, -, -⟩ := m1.settle (L := 1) (by omega) (fun x hx => by have := (p1 x hx).1; omega) (fun x K z => by cases z)
  obtain ⟨m, hm⟩ : ∃ m, FU = (m + 1) + (k1 + 1) := ⟨FU - k1 - 2, by omega⟩
  refine ⟨T, _, ?_, m3, f1.trans f3, fun p hp => ?_, by rw [x3]; exact cm1⟩
  · rw [hm, (r1.trans r2) (m + 1), f_X12_readExpression_20]
    unfold f_X12_readExpression_76
    have e3 : f_X12_settle (nI 1) U1 = some T := e3
    simp (disch := omega) only [k_let, Option.bind_some, ↓reduceIte, eq_self, true_or, or_true, n01_0, n01_1, kb_or, kb_0T, kb_0F, vn_0, vn_1, vn_k, nl_0, nl_1, nl_2, nl_3, nl_4, nl_5, nl_6, nl_7, nl_8, nl_9, nl_10, nl_11, nl_12, nl_13, nl_14, nl_15, nl_16, nl_20, nl_21, nl_22, nl_23, nl_24, nl_25, nl_26, nl_27, nl_28, nl_29, nl_30, nl_31, nl_32, nl_40, nl_41, nl_42, nl_43, nl_45, nl_47, nl_48, nl_50, nl_57, nl_59, nl_60, nl_61, nl_62, nl_63, nl_64, nl_91, nl_93, nl_94, nl_97, nl_98, nl_100, nl_110, nl_122, nl_130, nl_144, nl_160, nl_240, nl_241, nl_255, nl_256, nl_400, nl_800, nl_900, nl_999, nl_1000, nl_1001, nl_1024, nl_1103, nl_1928, nl_4321, nl_5560, nl_12345, nl_1000000, nl_1000003, nl_252645135, nl_858993459, nl_1431655765, nl_1000000000, leT, leF, ltT, ltF, eqT, eqF, kbT, m1.2.1, e3]
  · rw [x3, fin_lo P1 (Fx U1) c1 c lc1 (fun x hx => (p1 x hx).2) p hp, lo1 p hp]
/-- the whole expression: a test -/
theorem m_test {t : Nat → Nat} {n a q a1 q1 c : Nat} {δ : Den} {U : St} (hM : Mxp t n a a c q 0 [] U) (h : MOk t n 1 0 2 1 1 0 a q a1 q1 δ) (h4 : isW t n a1 4 = false) (h5 : isW t n a1 5 = false) : ∃ T c1, f_X12_readExpression_20 FU (nI 1) (nI 0) U = some T ∧ Mxp t n a1 a1 c1 q1 0 [] T ∧ FM U T ∧ (∀ p, p < c → Fx T p = Fx U p) ∧ Cm (Fx T) c c1 δ (q1 - q) := by
  have F1 : 1000000 < FU := FU_ge (by decide)
  obtain ⟨k1, c1, P1, U1, r1, m1, p1, f1, lo1, lc1, cm1, kk1, kb1⟩ := h c [] U hM (fun x K z => by cases z) (fun _ => Or.inr ⟨rfl, rfl⟩)
  have hn := m1.1.1.1
  have ha1 := m1.1.2.1
  have hl := m1.lt.1
  have hinn : innI (P1 ++ []) = iZ (-1) := by
    unfold innI
    rw [inn_app (fun x hx => (p1 x hx).1)]
    rfl
  have w4 : f_X12_isWord (1476 : Int64) U1 = some (kB (isW t n a1 4), U1) := e_isWord (i := 4) m1.1 (by decide)
  have w5 : f_X12_isWord (498 : Int64) U1 = some (kB (isW t n a1 5), U1) := e_isWord (i := 5) m1.1 (by decide)
  have r2 : Lp 1 1 2 4 U1 U1 := lq2 m1.2.1 (by
    unfold f_X12_behindTest
    rw [w4, h4]
    simp (disch := omega) only [k_let, Option.bind_some, ↓reduceIte, eq_self, true_or, or_true, n01_0, n01_1, kb_or, kb_0T, kb_0F, vn_0, vn_1, vn_k, nl_0, nl_1, nl_2, nl_3, nl_4, nl_5, nl_6, nl_7, nl_8, nl_9, nl_10, nl_11, nl_12, nl_13, nl_14, nl_15, nl_16, nl_20, nl_21, nl_22, nl_23, nl_24, nl_25, nl_26, nl_27, nl_28, nl_29, nl_30, nl_31, nl_32, nl_40, nl_41, nl_42, nl_43, nl_45, nl_47, nl_48, nl_50, nl_57, nl_59, nl_60, nl_61, nl_62, nl_63, nl_64, nl_91, nl_93, nl_94, nl_97, nl_98, nl_100, nl_110, nl_122, nl_130, nl_144, nl_160, nl_240, nl_241, nl_255, nl_256, nl_400, nl_800, nl_900, nl_999, nl_1000, nl_1001, nl_1024, nl_1103, nl_1928, nl_4321, nl_5560, nl_12345, nl_1000000, nl_1000003, nl_252645135, nl_858993459, nl_1431655765, nl_1000000000, kB_f]
    rw [w5, h5]
    simp (disch := omega) only [k_let, Option.bind_some, ↓reduceIte, eq_self, true_or, or_true, n01_0, n01_1, kb_or, kb_0T, kb_0F, vn_0, vn_1, vn_k, nl_0, nl_1, nl_2, nl_3, nl_4, nl_5, nl_6, nl_7, nl_8, nl_9, nl_10, nl_11, nl_12, nl_13, nl_14, nl_15, nl_16, nl_20, nl_21, nl_22, nl_23, nl_24, nl_25, nl_26, nl_27, nl_28, nl_29, nl_30, nl_31, nl_32, nl_40, nl_41, nl_42, nl_43, nl_45, nl_47, nl_48, nl_50, nl_57, nl_59, nl_60, nl_61, nl_62, nl_63, nl_64, nl_91, nl_93, nl_94, nl_97, nl_98, nl_100, nl_110, nl_122, nl_130, nl_144, nl_160, nl_240, nl_241, nl_255, nl_256, nl_400, nl_800, nl_900, nl_999, nl_1000, nl_1001, nl_1024, nl_1103, nl_1928, nl_4321, nl_5560, nl_12345, nl_1000000, nl_1000003, nl_252645135, nl_858993459, nl_1431655765, nl_1000000000, kB_f]
    rw [e_inner m1.2.2.2.2.2.2.1 m1.2.2.2.2.2.2.2.1 m1.2.2.2.2.1 hl, hinn]
    simp (disch := omega) only [k_let, Option.bind_some, ↓reduceIte, eq_self, true_or, or_true, n01_0, n01_1, kb_or, kb_0T, kb_0F, vn_0, vn_1, vn_k, nl_0, nl_1, nl_2, nl_3, nl_4, nl_5, nl_6, nl_7, nl_8, nl_9, nl_10, nl_11, nl_12, nl_13, nl_14, nl_15, nl_16, nl_20, nl_21, nl_22, nl_23, nl_24, nl_25, nl_26, nl_27, nl_28, nl_29, nl_30, nl_31, nl_32, nl_40, nl_41, nl_42, nl_43, nl_45, nl_47, nl_48, nl_50, nl_57, nl_59, nl_60, nl_61, nl_62, nl_63, nl_64, nl_91, nl_93, nl_94, nl_97, nl_98, nl_100, nl_110, nl_122, nl_130, nl_144, nl_160, nl_240, nl_241, nl_255, nl_256, nl_400, nl_800, nl_900, nl_999, nl_1000, nl_1001, nl_1024, nl_1103, nl_1928, nl_4321, nl_5560, nl_12345, nl_1000000, nl_1000003, nl_252645135, nl_858993459, nl_1431655765, nl_1000000000, nI_add, pk_mul, n_sub, n_neg, n_cl, leT, leF, ltT, ltF, eqT, eqF, kbT, s_II, s_In, s_IJ, s_IA, s_IL, s_IR, s_IC, s_JI, s_JJ, s_Jn, s_JA, s_JL, s_JR, s_JC, s_AI, s_AJ, s_AA, s_An, s_AL, s_AR, s_AC, s_LI, s_LJ, s_LA, s_LL, s_Ln, s_LR, s_LC, zleT, zleF, zltT, zltF, zeqT, zeqF, nzleT, nzleF, nzltT, nzltF, nzeqT, nzeqF, znleT, znleF, znltT, znltF, zneqT, zneqF, z_add, z_sub, z_mul, z_neg, z_an, z_na, z_sn, z_ns, z_mn, z_nm])
  obtain ⟨T, e3, m3, f3, x3, c3, -, -⟩ := m1.settle (L := 1) (by omega) (fun x hx => (p1 x hx).1) (fun x K z => by cases z)
  obtain ⟨m, hm⟩ : ∃ m, FU = (m + 1) + (k1 + 1) := ⟨FU - k1 - 2, by omega⟩
  refine ⟨T, _, ?_, m3, f1.trans f3, fun p hp => ?_, by rw [x3]; exact cm1⟩
  · rw [hm, (r1.trans r2) (m + 1), f_X12_readExpression_20]
    unfold f_X12_readExpression_76
    have e3 : f_X12_settle (nI 1) U1 = some T := e3
    simp (disch := omega) only [k_let, Option.bind_some, ↓reduceIte, eq_self, true_or, or_true, n01_0, n01_1, kb_or, kb_0T, kb_0F, vn_0, vn_1, vn_k, nl_0, nl_1, nl_2, nl_3, nl_4, nl_5, nl_6, nl_7, nl_8, nl_9, nl_10, nl_11, nl_12, nl_13, nl_14, nl_15, nl_16, nl_20, nl_21, nl_22, nl_23, nl_24, nl_25, nl_26, nl_27, nl_28, nl_29, nl_30, nl_31, nl_32, nl_40, nl_41, nl_42, nl_43, nl_45, nl_47, nl_48, nl_50, nl_57, nl_59, nl_60, nl_61, nl_62, nl_63, nl_64, nl_91, nl_93, nl_94, nl_97, nl_98, nl_100, nl_110, nl_122, nl_130, nl_144, nl_160, nl_240, nl_241, nl_255, nl_256, nl_400, nl_800, nl_900, nl_999, nl_1000, nl_1001, nl_1024, nl_1103, nl_1928, nl_4321, nl_5560, nl_12345, nl_1000000, nl_1000003, nl_252645135, nl_858993459, nl_1431655765, nl_1000000000, leT, leF, ltT, ltF, eqT, eqF, kbT, m1.2.1, e3]
  · rw [x3, fin_lo P1 (Fx U1) c1 c lc1 (fun x hx => (p1 x hx).2) p hp, lo1 p hp]
/-- the whole expression goes bad -/
theorem m_bad {t : Nat → Nat} {n tb T0 a af : Nat} {U : St} (hn : n ≤ 400) (h : MBd n tb T0 a U af) : ∃ T, f_X12_readExpression_20 FU (nI tb) (nI T0) U = some T ∧ gI T 41 = nI 1 ∧ gI T 40 = nI af ∧ FMb U T ∧ ∃ c, c ≤ 400 ∧ gI T 43 = nI c := by
  have F1 : 1000000 < FU := FU_ge (by decide)
  obtain ⟨k, T', U', c', K', h1, r, v1, v2, v3, v4, v5, v6, v7, v8⟩ := h
  obtain ⟨P, K2, e, p1, p2⟩ := pl_split 1 K'
  subst e
  have hpk : (P ++ K2).length = P.length + K2.length := List.length_append
  obtain ⟨T, e1, e2, e3, e4, e5, e6, e7, e8, e9⟩ := l_settle P K2 FU U' c' 1 (by decide) p1 p2 v3 v4 v5 v6 v7 (by omega)
  obtain ⟨m, hm⟩ : ∃ m, FU = (m + 1) + k := ⟨FU - k - 1, by omega⟩
  refine ⟨T, ?_, (e2.I rfl).trans v1, (e2.I rfl).trans v2, v8.trans (e2.mono rfl rfl rfl rfl), _, by omega, e3⟩
  rw [hm, r (m + 1), f_X12_readExpression_20]
  unfold f_X12_readExpression_76 f_X12_settle
  have e1 : f_X12_settle_0 FU (nI 1) U' = some T := e1
  simp (disch := omega) only [k_let, Option.bind_some, ↓reduceIte, eq_self, true_or, or_true, n01_0, n01_1, kb_or, kb_0T, kb_0F, vn_0, vn_1, vn_k, nl_0, nl_1, nl_2, nl_3, nl_4, nl_5, nl_6, nl_7, nl_8, nl_9, nl_10, nl_11, nl_12, nl_13, nl_14, nl_15, nl_16, nl_20, nl_21, nl_22, nl_23, nl_24, nl_25, nl_26, nl_27, nl_28, nl_29, nl_30, nl_31, nl_32, nl_40, nl_41, nl_42, nl_43, nl_45, nl_47, nl_48, nl_50, nl_57, nl_59, nl_60, nl_61, nl_62, nl_63, nl_64, nl_91, nl_93, nl_94, nl_97, nl_98, nl_100, nl_110, nl_122, nl_130, nl_144, nl_160, nl_240, nl_241, nl_255, nl_256, nl_400, nl_800, nl_900, nl_999, nl_1000, nl_1001, nl_1024, nl_1103, nl_1928, nl_4321, nl_5560, nl_12345, nl_1000000, nl_1000003, nl_252645135, nl_858993459, nl_1431655765, nl_1000000000, leT, leF, ltT, ltF, eqT, eqF, kbT, v1, e1]
