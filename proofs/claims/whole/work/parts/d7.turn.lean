/-! part d7: the reference's brackets, comparisons, not, and, or -/
theorem bn_ge5 {op : Nat} (h : 5 ≤ bn op) : op ≤ 23 := by
  unfold bn at h
  by_cases c : 24 ≤ op
  · exfalso
    revert h
    (repeat' split) <;> omega
  · omega
theorem bn_lt4 {op : Nat} (h : bn op < 4) : 27 ≤ op := by
  unfold bn at h
  by_cases c : op < 27
  · exfalso
    revert h
    (repeat' split) <;> omega
  · omega
theorem icp_app : ∀ {P K : Pi_}, (∀ x, x ∈ P → 5 ≤ bn x.1) → icp (P ++ K) = icp K := by
  intro P K
  induction P with
  | nil => intro _; rfl
  | cons x P ih =>
    intro h
    show (if x.1 ≤ 23 then icp (P ++ K) else _) = _
    rw [if_pos (bn_ge5 (h x List.mem_cons_self))]
    exact ih (fun y hy => h y (List.mem_cons_of_mem _ hy))
theorem icp_f {K : Pi_} (h : tpL 4 K) : icp K = false := by
  cases K with
  | nil => rfl
  | cons x K =>
    have := bn_lt4 (h x K rfl)
    show (if x.1 ≤ 23 then icp K else decide (x.1 ≤ 26)) = false
    rw [if_neg (by omega)]
    exact decide_eq_false (by omega)
theorem e_open {t : Nat → Nat} {n a c q o op : Nat} {K : Pi_} {U : St} (ho : op = 30 ∨ op = 31) (hM : Mxp t n a a c q o K U) (hk : kd t n a ≠ 0) (h8 : o < 8) : ∃ T, f_X12_openBracket (nI op) U = some T ∧ Mxp t n (tnx t n a) (tnx t n a) c q (o + 1) ((op, 0) :: K) T ∧ FM U T ∧ Fx T = Fx U := by
  have hx := tnx_lt hk
  have hn := hM.1.1.1
  have hl : c + K.length ≤ a := hM.2.2.2.2.2.2.2.2.1
  obtain ⟨T1, e1, m1, f1, x1⟩ := hM.must (by omega)
  obtain ⟨m2, f2, x2⟩ := (m1.setb (b' := a) hl (by omega)).s46 (o + 1)
  obtain ⟨T3, e3, m3, f3, x3⟩ := m2.push (op := op) (at_ := 0) (by omega) ⟨by omega, by omega, by omega⟩ (by omega)
  refine ⟨T3, ?_, m3.setb (by show c + (K.length + 1) ≤ _; omega) (by omega), (f1.trans f2).trans f3, by rw [x3, x2, x1]⟩
  unfold f_X12_openBracket f_X12_openBracket_15 f_X12_openBracket_41
  simp (disch := omega) only [k_let, Option.bind_some, ↓reduceIte, eq_self, true_or, or_true, n01_0, n01_1, kb_or, kb_0T, kb_0F, vn_0, vn_1, vn_k, nl_0, nl_1, nl_2, nl_3, nl_4, nl_5, nl_6, nl_7, nl_8, nl_9, nl_10, nl_11, nl_12, nl_13, nl_14, nl_15, nl_16, nl_20, nl_21, nl_22, nl_23, nl_24, nl_25, nl_26, nl_27, nl_28, nl_29, nl_30, nl_31, nl_32, nl_40, nl_41, nl_42, nl_43, nl_45, nl_47, nl_48, nl_50, nl_57, nl_59, nl_60, nl_61, nl_62, nl_63, nl_64, nl_91, nl_93, nl_94, nl_97, nl_98, nl_100, nl_110, nl_122, nl_130, nl_144, nl_160, nl_240, nl_241, nl_255, nl_256, nl_400, nl_800, nl_900, nl_999, nl_1000, nl_1001, nl_1024, nl_1103, nl_1928, nl_4321, nl_5560, nl_12345, nl_1000000, nl_1000003, nl_252645135, nl_858993459, nl_1431655765, nl_1000000000, nI_add, pk_mul, n_sub, n_neg, n_cl, leT, leF, ltT, ltF, eqT, eqF, kbT, s_II, s_In, s_IJ, s_IA, s_IL, s_IR, s_IC, s_JI, s_JJ, s_Jn, s_JA, s_JL, s_JR, s_JC, s_AI, s_AJ, s_AA, s_An, s_AL, s_AR, s_AC, s_LI, s_LJ, s_LA, s_LL, s_Ln, s_LR, s_LC, hM.2.2.2.2.2.1, e1, m1.2.1, m1.2.2.2.2.2.1, e3]
theorem e_openF {t : Nat → Nat} {n a c q o : Nat} {K : Pi_} {U : St} (x : Int32) (hM : Mxp t n a a c q o K U) (h8 : 8 ≤ o) (h9 : o < 1000) : ∃ T, f_X12_openBracket x U = some T ∧ gI T 41 = nI 1 ∧ gI T 40 = nI a ∧ gI T 43 = nI c ∧ gI T 45 = nI K.length ∧ PLs T K ∧ Pk c K ∧ c + K.length ≤ 400 ∧ FMb U T := by
  obtain ⟨T, e, r⟩ := hM.bad
  refine ⟨T, ?_, r⟩
  unfold f_X12_openBracket f_X12_openBracket_15 f_X12_openBracket_41
  simp (disch := omega) only [k_let, Option.bind_some, ↓reduceIte, eq_self, true_or, or_true, n01_0, n01_1, kb_or, kb_0T, kb_0F, vn_0, vn_1, vn_k, nl_0, nl_1, nl_2, nl_3, nl_4, nl_5, nl_6, nl_7, nl_8, nl_9, nl_10, nl_11, nl_12, nl_13, nl_14, nl_15, nl_16, nl_20, nl_21, nl_22, nl_23, nl_24, nl_25, nl_26, nl_27, nl_28, nl_29, nl_30, nl_31, nl_32, nl_40, nl_41, nl_42, nl_43, nl_45, nl_47, nl_48, nl_50, nl_57, nl_59, nl_60, nl_61, nl_62, nl_63, nl_64, nl_91, nl_93, nl_94, nl_97, nl_98, nl_100, nl_110, nl_122, nl_130, nl_144, nl_160, nl_240, nl_241, nl_255, nl_256, nl_400, nl_800, nl_900, nl_999, nl_1000, nl_1001, nl_1024, nl_1103, nl_1928, nl_4321, nl_5560, nl_12345, nl_1000000, nl_1000003, nl_252645135, nl_858993459, nl_1431655765, nl_1000000000, nI_add, pk_mul, n_sub, n_neg, n_cl, leT, leF, ltT, ltF, eqT, eqF, kbT, s_II, s_In, s_IJ, s_IA, s_IL, s_IR, s_IC, s_JI, s_JJ, s_Jn, s_JA, s_JL, s_JR, s_JC, s_AI, s_AJ, s_AA, s_An, s_AL, s_AR, s_AC, s_LI, s_LJ, s_LA, s_LL, s_Ln, s_LR, s_LC, hM.2.2.2.2.2.1, e, r.1]
theorem noA_of {t : Nat → Nat} {n a c : Nat} (h : isS t n a c = true) (h1 : c ≠ 43 ∧ c ≠ 45 ∧ c ≠ 42 ∧ c ≠ 47) : NoA t n a := by
  have hS := isS_of h
  exact ⟨(hS 43).trans (decide_eq_false h1.1), (hS 45).trans (decide_eq_false h1.2.1), (hS 42).trans (decide_eq_false h1.2.2.1), (hS 47).trans (decide_eq_false h1.2.2.2)⟩
theorem e_sqc {t : Nat → Nat} {n a c q o tb : Nat} {P K : Pi_} {U : St} (hM : Mxp t n a a c q (o + 1) (P ++ (31, 0) :: K) U) (hs : isS t n a 93 = true) (hP : ∀ x, x ∈ P → 5 ≤ bn x.1) (h8 : o < 8) : ∃ T, f_X12_behindSum (nI tb) U = some (nI 3, T) ∧ Mxp t n (tnx t n a) (tnx t n a) (fin_ (Fx U) c P).2 q o K T ∧ FM U T ∧ Fx T = (fin_ (Fx U) c P).1 ∧ c ≤ (fin_ (Fx U) c P).2 := by
  have hx := tnx_lt (t := t) (n := n) (a := a) (by rw [(isS_kd hs).1]; decide)
  obtain ⟨T1, e1, m1, f1, x1⟩ := hM.must (by omega)
  have hlt := hM.lt
  have hl := hlt.1
  rw [← x1]
  obtain ⟨T2, e2, m2, f2, x2, c2, -, -⟩ := m1.settle (L := 5) (by omega) hP (tpL.cons (by decide))
  obtain ⟨m3, f3, x3⟩ := m2.pop
  obtain ⟨m4, f4, x4⟩ := m3.s46 o
  refine ⟨_, ?_, m4, ((f1.trans f2).trans f3).trans f4, by rw [x4, x3, x2], c2⟩
  rw [e_bs_no hM.1 (noA_of hs (by decide))]
  have hinn : innI (P ++ (31, 0) :: K) = nI 31 := by
    unfold innI
    rw [inn_app (fun x hx => by have := hP x hx; omega)]
    rfl
  have h45 : gI T2 45 = nI (K.length + 1) := m2.2.2.2.2.1
  have h46 : gI T2 46 = nI (o + 1) := m2.2.2.2.2.2.1
  have hK : K.length < 400 := by have : (P ++ (31, 0) :: K).length = P.length + (K.length + 1) := List.length_append; omega
  unfold f_X12_behindSum_57 f_X12_behindSum_136
  rw [e_inner hM.2.2.2.2.2.2.1 hM.2.2.2.2.2.2.2.1 hM.2.2.2.2.1 hl, hinn]
  simp (disch := omega) only [k_let, Option.bind_some, ↓reduceIte, eq_self, true_or, or_true, n01_0, n01_1, kb_or, kb_0T, kb_0F, vn_0, vn_1, vn_k, nl_0, nl_1, nl_2, nl_3, nl_4, nl_5, nl_6, nl_7, nl_8, nl_9, nl_10, nl_11, nl_12, nl_13, nl_14, nl_15, nl_16, nl_20, nl_21, nl_22, nl_23, nl_24, nl_25, nl_26, nl_27, nl_28, nl_29, nl_30, nl_31, nl_32, nl_40, nl_41, nl_42, nl_43, nl_45, nl_47, nl_48, nl_50, nl_57, nl_59, nl_60, nl_61, nl_62, nl_63, nl_64, nl_91, nl_93, nl_94, nl_97, nl_98, nl_100, nl_110, nl_122, nl_130, nl_144, nl_160, nl_240, nl_241, nl_255, nl_256, nl_400, nl_800, nl_900, nl_999, nl_1000, nl_1001, nl_1024, nl_1103, nl_1928, nl_4321, nl_5560, nl_12345, nl_1000000, nl_1000003, nl_252645135, nl_858993459, nl_1431655765, nl_1000000000, nI_add, pk_mul, n_sub, n_neg, n_cl, leT, leF, ltT, ltF, eqT, eqF, kbT, s_II, s_In, s_IJ, s_IA, s_IL, s_IR, s_IC, s_JI, s_JJ, s_Jn, s_JA, s_JL, s_JR, s_JC, s_AI, s_AJ, s_AA, s_An, s_AL, s_AR, s_AC, s_LI, s_LJ, s_LA, s_LL, s_Ln, s_LR, s_LC, zleT, zleF, zltT, zltF, zeqT, zeqF, nzleT, nzleF, nzltT, nzltF, nzeqT, nzeqF, znleT, znleF, znltT, znltF, zneqT, zneqF, z_add, z_sub, z_mul, z_neg, z_an, z_na, z_sn, z_ns, z_mn, z_nm, e_isSign hM.1, hs, kB_t, e1, m1.2.1, e2, h45, h46, Nat.add_sub_cancel]
theorem MOk.sq {t : Nat → Nat} {n tb d a q a1 q1 : Nat} {δ : Den} (hs : isS t n a 91 = true) (h8 : d < 8) (h : MOk t n tb 1 3 5 5 (d + 1) (tnx t n a) q a1 q1 δ) (hs1 : isS t n a1 93 = true) : MOk t n tb 1 3 7 7 d a q (tnx t n a1) q1 δ := by
  have hx := tnx_lt (t := t) (n := n) (a := a) (by rw [(isS_kd hs).1]; decide)
  have hx1 := tnx_lt (t := t) (n := n) (a := a1) (by rw [(isS_kd hs1).1]; decide)
  intro c K U hM _ _
  obtain ⟨T, e, m0, f0, x0⟩ := e_open (op := 31) (Or.inr rfl) hM (by rw [(isS_kd hs).1]; decide) h8
  have r0 : Lp tb 1 1 1 U T := lq1 hM.2.1 (by
    unfold f_X12_readPart
    simp (disch := omega) only [k_let, Option.bind_some, ↓reduceIte, eq_self, true_or, or_true, n01_0, n01_1, kb_or, kb_0T, kb_0F, vn_0, vn_1, vn_k, nl_0, nl_1, nl_2, nl_3, nl_4, nl_5, nl_6, nl_7, nl_8, nl_9, nl_10, nl_11, nl_12, nl_13, nl_14, nl_15, nl_16, nl_20, nl_21, nl_22, nl_23, nl_24, nl_25, nl_26, nl_27, nl_28, nl_29, nl_30, nl_31, nl_32, nl_40, nl_41, nl_42, nl_43, nl_45, nl_47, nl_48, nl_50, nl_57, nl_59, nl_60, nl_61, nl_62, nl_63, nl_64, nl_91, nl_93, nl_94, nl_97, nl_98, nl_100, nl_110, nl_122, nl_130, nl_144, nl_160, nl_240, nl_241, nl_255, nl_256, nl_400, nl_800, nl_900, nl_999, nl_1000, nl_1001, nl_1024, nl_1103, nl_1928, nl_4321, nl_5560, nl_12345, nl_1000000, nl_1000003, nl_252645135, nl_858993459, nl_1431655765, nl_1000000000, nI_add, pk_mul, n_sub, n_neg, n_cl, leT, leF, ltT, ltF, eqT, eqF, kbT, s_II, s_In, s_IJ, s_IA, s_IL, s_IR, s_IC, s_JI, s_JJ, s_Jn, s_JA, s_JL, s_JR, s_JC, s_AI, s_AJ, s_AA, s_An, s_AL, s_AR, s_AC, s_LI, s_LJ, s_LA, s_LL, s_Ln, s_LR, s_LC, e_isSign hM.1, hs, kB_t, e])
  obtain ⟨k1, c1, P1, U1, r1, m1, p1, f1, lo1, lc1, cm1, kk1, kb1⟩ := h c ((31, 0) :: K) T m0 (tpL.cons (by decide)) (fun z => absurd z (by decide))
  obtain ⟨V, e2, m2, f2, x2, lc2⟩ := e_sqc (tb := tb) m1 hs1 (fun x hx => (p1 x hx).1) h8
  have r2 := lq3 m1.2.1 e2
  refine ⟨1 + k1 + 1, _, [], V, (r0.trans r1).trans r2, m2, fun x hx => absurd hx List.not_mem_nil, (f0.trans f1).trans f2, fun p hp => ?_, by omega, ?_, by omega, by omega⟩
  · rw [x2, fin_lo P1 (Fx U1) c1 c lc1 (fun x hx => (p1 x hx).2) p hp, lo1 p hp, x0]
  · show Cm (Fx V) c _ δ _
    rw [x2]
    exact cm1
theorem MFl.sq0 {t : Nat → Nat} {n tb d a q : Nat} (hs : isS t n a 91 = true) (h8 : 8 ≤ d) (h9 : d < 1000) : MFl t n tb 1 3 7 d a q a := by
  intro c K U hM _ _
  have han := hM.1.2.1
  obtain ⟨T, e, r1, r2, r3, r4, r5, r6, r7, r8⟩ := e_openF (nI 31) hM h8 h9
  refine ⟨1, 1, T, c, K, by omega, lq1 hM.2.1 ?_, r1, r2, r3, r4, r5, r6, r7, r8⟩
  unfold f_X12_readPart
  simp (disch := omega) only [k_let, Option.bind_some, ↓reduceIte, eq_self, true_or, or_true, n01_0, n01_1, kb_or, kb_0T, kb_0F, vn_0, vn_1, vn_k, nl_0, nl_1, nl_2, nl_3, nl_4, nl_5, nl_6, nl_7, nl_8, nl_9, nl_10, nl_11, nl_12, nl_13, nl_14, nl_15, nl_16, nl_20, nl_21, nl_22, nl_23, nl_24, nl_25, nl_26, nl_27, nl_28, nl_29, nl_30, nl_31, nl_32, nl_40, nl_41, nl_42, nl_43, nl_45, nl_47, nl_48, nl_50, nl_57, nl_59, nl_60, nl_61, nl_62, nl_63, nl_64, nl_91, nl_93, nl_94, nl_97, nl_98, nl_100, nl_110, nl_122, nl_130, nl_144, nl_160, nl_240, nl_241, nl_255, nl_256, nl_400, nl_800, nl_900, nl_999, nl_1000, nl_1001, nl_1024, nl_1103, nl_1928, nl_4321, nl_5560, nl_12345, nl_1000000, nl_1000003, nl_252645135, nl_858993459, nl_1431655765, nl_1000000000, nI_add, pk_mul, n_sub, n_neg, n_cl, leT, leF, ltT, ltF, eqT, eqF, kbT, s_II, s_In, s_IJ, s_IA, s_IL, s_IR, s_IC, s_JI, s_JJ, s_Jn, s_JA, s_JL, s_JR, s_JC, s_AI, s_AJ, s_AA, s_An, s_AL, s_AR, s_AC, s_LI, s_LJ, s_LA, s_LL, s_Ln, s_LR, s_LC, e_isSign hM.1, hs, kB_t, e]
theorem MFl.sq1 {t : Nat → Nat} {n tb d a q af : Nat} (hs : isS t n a 91 = true) (h8 : d < 8) (h : MFl t n tb 1 3 5 (d + 1) (tnx t n a) q af) : MFl t n tb 1 3 7 d a q af := by
  have hx := tnx_lt (t := t) (n := n) (a := a) (by rw [(isS_kd hs).1]; decide)
  intro c K U hM _ _
  obtain ⟨T, e, m0, f0, x0⟩ := e_open (op := 31) (Or.inr rfl) hM (by rw [(isS_kd hs).1]; decide) h8
  have r0 : Lp tb 1 1 1 U T := lq1 hM.2.1 (by
    unfold f_X12_readPart
    simp (disch := omega) only [k_let, Option.bind_some, ↓reduceIte, eq_self, true_or, or_true, n01_0, n01_1, kb_or, kb_0T, kb_0F, vn_0, vn_1, vn_k, nl_0, nl_1, nl_2, nl_3, nl_4, nl_5, nl_6, nl_7, nl_8, nl_9, nl_10, nl_11, nl_12, nl_13, nl_14, nl_15, nl_16, nl_20, nl_21, nl_22, nl_23, nl_24, nl_25, nl_26, nl_27, nl_28, nl_29, nl_30, nl_31, nl_32, nl_40, nl_41, nl_42, nl_43, nl_45, nl_47, nl_48, nl_50, nl_57, nl_59, nl_60, nl_61, nl_62, nl_63, nl_64, nl_91, nl_93, nl_94, nl_97, nl_98, nl_100, nl_110, nl_122, nl_130, nl_144, nl_160, nl_240, nl_241, nl_255, nl_256, nl_400, nl_800, nl_900, nl_999, nl_1000, nl_1001, nl_1024, nl_1103, nl_1928, nl_4321, nl_5560, nl_12345, nl_1000000, nl_1000003, nl_252645135, nl_858993459, nl_1431655765, nl_1000000000, nI_add, pk_mul, n_sub, n_neg, n_cl, leT, leF, ltT, ltF, eqT, eqF, kbT, s_II, s_In, s_IJ, s_IA, s_IL, s_IR, s_IC, s_JI, s_JJ, s_Jn, s_JA, s_JL, s_JR, s_JC, s_AI, s_AJ, s_AA, s_An, s_AL, s_AR, s_AC, s_LI, s_LJ, s_LA, s_LL, s_Ln, s_LR, s_LC, e_isSign hM.1, hs, kB_t, e])
  exact (h c ((31, 0) :: K) T m0 (tpL.cons (by decide)) (fun z => absurd z (by decide))).pre r0 (by omega) f0
theorem MFl.sq2 {t : Nat → Nat} {n tb d a q a1 q1 : Nat} {δ : Den} (hs : isS t n a 91 = true) (h8 : d < 8) (h : MOk t n tb 1 3 5 5 (d + 1) (tnx t n a) q a1 q1 δ) (hn : NoA t n a1) (hs1 : isS t n a1 93 = false) : MFl t n tb 1 3 7 d a q a1 := by
  have hx := tnx_lt (t := t) (n := n) (a := a) (by rw [(isS_kd hs).1]; decide)
  intro c K U hM _ _
  obtain ⟨T, e, m0, f0, x0⟩ := e_open (op := 31) (Or.inr rfl) hM (by rw [(isS_kd hs).1]; decide) h8
  have r0 : Lp tb 1 1 1 U T := lq1 hM.2.1 (by
    unfold f_X12_readPart
    simp (disch := omega) only [k_let, Option.bind_some, ↓reduceIte, eq_self, true_or, or_true, n01_0, n01_1, kb_or, kb_0T, kb_0F, vn_0, vn_1, vn_k, nl_0, nl_1, nl_2, nl_3, nl_4, nl_5, nl_6, nl_7, nl_8, nl_9, nl_10, nl_11, nl_12, nl_13, nl_14, nl_15, nl_16, nl_20, nl_21, nl_22, nl_23, nl_24, nl_25, nl_26, nl_27, nl_28, nl_29, nl_30, nl_31, nl_32, nl_40, nl_41, nl_42, nl_43, nl_45, nl_47, nl_48, nl_50, nl_57, nl_59, nl_60, nl_61, nl_62, nl_63, nl_64, nl_91, nl_93, nl_94, nl_97, nl_98, nl_100, nl_110, nl_122, nl_130, nl_144, nl_160, nl_240, nl_241, nl_255, nl_256, nl_400, nl_800, nl_900, nl_999, nl_1000, nl_1001, nl_1024, nl_1103, nl_1928, nl_4321, nl_5560, nl_12345, nl_1000000, nl_1000003, nl_252645135, nl_858993459, nl_1431655765, nl_1000000000, nI_add, pk_mul, n_sub, n_neg, n_cl, leT, leF, ltT, ltF, eqT, eqF, kbT, s_II, s_In, s_IJ, s_IA, s_IL, s_IR, s_IC, s_JI, s_JJ, s_Jn, s_JA, s_JL, s_JR, s_JC, s_AI, s_AJ, s_AA, s_An, s_AL, s_AR, s_AC, s_LI, s_LJ, s_LA, s_LL, s_Ln, s_LR, s_LC, e_isSign hM.1, hs, kB_t, e])
  obtain ⟨k1, c1, P1, U1, r1, m1, p1, f1, lo1, lc1, cm1, kk1, kb1⟩ := h c ((31, 0) :: K) T m0 (tpL.cons (by decide)) (fun z => absurd z (by decide))
  have ha1 := m1.1.2.1
  have hl := m1.lt.1
  obtain ⟨V, e2, v1, v2, v3, v4, v5, v6, v7, v8⟩ := m1.bad
  have hinn : innI (P1 ++ (31, 0) :: K) = nI 31 := by
    unfold innI
    rw [inn_app (fun x hx => by have := (p1 x hx).1; omega)]
    rfl
  have r2 : Lp tb 1 3 3 U1 V := lq3 m1.2.1 (by
    rw [e_bs_no m1.1 hn]
    unfold f_X12_behindSum_57 f_X12_behindSum_136
    rw [e_inner m1.2.2.2.2.2.2.1 m1.2.2.2.2.2.2.2.1 m1.2.2.2.2.1 hl, hinn]
    simp (disch := omega) only [k_let, Option.bind_some, ↓reduceIte, eq_self, true_or, or_true, n01_0, n01_1, kb_or, kb_0T, kb_0F, vn_0, vn_1, vn_k, nl_0, nl_1, nl_2, nl_3, nl_4, nl_5, nl_6, nl_7, nl_8, nl_9, nl_10, nl_11, nl_12, nl_13, nl_14, nl_15, nl_16, nl_20, nl_21, nl_22, nl_23, nl_24, nl_25, nl_26, nl_27, nl_28, nl_29, nl_30, nl_31, nl_32, nl_40, nl_41, nl_42, nl_43, nl_45, nl_47, nl_48, nl_50, nl_57, nl_59, nl_60, nl_61, nl_62, nl_63, nl_64, nl_91, nl_93, nl_94, nl_97, nl_98, nl_100, nl_110, nl_122, nl_130, nl_144, nl_160, nl_240, nl_241, nl_255, nl_256, nl_400, nl_800, nl_900, nl_999, nl_1000, nl_1001, nl_1024, nl_1103, nl_1928, nl_4321, nl_5560, nl_12345, nl_1000000, nl_1000003, nl_252645135, nl_858993459, nl_1431655765, nl_1000000000, nI_add, pk_mul, n_sub, n_neg, n_cl, leT, leF, ltT, ltF, eqT, eqF, kbT, s_II, s_In, s_IJ, s_IA, s_IL, s_IR, s_IC, s_JI, s_JJ, s_Jn, s_JA, s_JL, s_JR, s_JC, s_AI, s_AJ, s_AA, s_An, s_AL, s_AR, s_AC, s_LI, s_LJ, s_LA, s_LL, s_Ln, s_LR, s_LC, zleT, zleF, zltT, zltF, zeqT, zeqF, nzleT, nzleF, nzltT, nzltF, nzeqT, nzeqF, znleT, znleF, znltT, znltF, zneqT, zneqF, z_add, z_sub, z_mul, z_neg, z_an, z_na, z_sn, z_ns, z_mn, z_nm, e_isSign m1.1, hs1, kB_f, e2, v1])
  exact ⟨1 + k1 + 1, 3, V, _, _, by omega, (r0.trans r1).trans r2, v1, v2, v3, v4, v5, v6, v7, FM.b (f0.trans f1) v8⟩
/-- a comparison's sign -/
theorem e_cmp {t : Nat → Nat} {n a c q o tb ch op : Nat} {P K : Pi_} {U : St} (hop : (ch, op) ∈ [(60, 24), (62, 25), (61, 26)]) (hM : Mxp t n a a c q o (P ++ K) U) (hs : isS t n a ch = true) (hP : ∀ x, x ∈ P → 5 ≤ bn x.1) (hK : tpL 4 K) (hC : Cx tb K) : ∃ T, f_X12_behindSum (nI tb) U = some (nI 1, T) ∧ Mxp t n (tnx t n a) (tnx t n a) (fin_ (Fx U) c P).2 q o ((op, 0) :: K) T ∧ FM U T ∧ Fx T = (fin_ (Fx U) c P).1 ∧ c ≤ (fin_ (Fx U) c P).2 := by
  have hS := isS_of hs
  have hx := tnx_lt (t := t) (n := n) (a := a) (by rw [(isS_kd hs).1]; decide)
  have hn := hM.1.1.1
  have ho : 24 ≤ op ∧ op ≤ 26 := by simp at hop; omega
  have hl0 : c + (P ++ K).length ≤ a := hM.2.2.2.2.2.2.2.2.1
  have hpk : (P ++ K).length = P.length + K.length := List.length_append
  have hl := hM.lt.1
  obtain ⟨T1, e1, m1, f1, x1⟩ := hM.must (by omega)
  rw [← x1]
  obtain ⟨T2, e2, m2, f2, x2, c2, -, c3⟩ := m1.settle (L := 5) (by omega) hP (hK.mono (by decide))
  obtain ⟨T3, e3, m3, f3, x3⟩ := (m2.setb (b' := a) (by omega) (by omega)).push (op := op) (at_ := 0) (by omega) ⟨by omega, by omega, by omega⟩ (by omega)
  refine ⟨T3, ?_, m3.setb (by show (fin_ (Fx T1) c P).2 + (K.length + 1) ≤ _; omega) (by omega), (f1.trans f2).trans f3, by rw [x3, x2], c2⟩
  have hNo : NoA t n a := noA_of hs (by simp at hop; omega)
  rw [e_bs_no hM.1 hNo]
  have hinn : inn (P ++ K) = inn K := inn_app (fun x hx => by have := hP x hx; omega)
  have hic : icp (P ++ K) = false := (icp_app hP).trans (icp_f hK)
  have hI := e_inner hM.2.2.2.2.2.2.1 hM.2.2.2.2.2.2.2.1 hM.2.2.2.2.1 hl
  have hJ := e_icp hM.2.2.2.2.2.2.1 hM.2.2.2.2.2.2.2.1 hM.2.2.2.2.1 hl
  have e149 : f_X12_behindSum_57 (nI tb) (iZ (-1)) U = f_X12_behindSum_149 U := by
    unfold f_X12_behindSum_57
    rw [hI]
    unfold innI
    rw [hinn]
    rcases hC with z | ⟨z, z2⟩
    · rw [z, if_neg (show ¬ (30 : Nat) = 0 by decide)]
      simp (disch := omega) only [k_let, Option.bind_some, ↓reduceIte, eq_self, true_or, or_true, n01_0, n01_1, kb_or, kb_0T, kb_0F, vn_0, vn_1, vn_k, nl_0, nl_1, nl_2, nl_3, nl_4, nl_5, nl_6, nl_7, nl_8, nl_9, nl_10, nl_11, nl_12, nl_13, nl_14, nl_15, nl_16, nl_20, nl_21, nl_22, nl_23, nl_24, nl_25, nl_26, nl_27, nl_28, nl_29, nl_30, nl_31, nl_32, nl_40, nl_41, nl_42, nl_43, nl_45, nl_47, nl_48, nl_50, nl_57, nl_59, nl_60, nl_61, nl_62, nl_63, nl_64, nl_91, nl_93, nl_94, nl_97, nl_98, nl_100, nl_110, nl_122, nl_130, nl_144, nl_160, nl_240, nl_241, nl_255, nl_256, nl_400, nl_800, nl_900, nl_999, nl_1000, nl_1001, nl_1024, nl_1103, nl_1928, nl_4321, nl_5560, nl_12345, nl_1000000, nl_1000003, nl_252645135, nl_858993459, nl_1431655765, nl_1000000000, nI_add, pk_mul, n_sub, n_neg, n_cl, leT, leF, ltT, ltF, eqT, eqF, kbT, s_II, s_In, s_IJ, s_IA, s_IL, s_IR, s_IC, s_JI, s_JJ, s_Jn, s_JA, s_JL, s_JR, s_JC, s_AI, s_AJ, s_AA, s_An, s_AL, s_AR, s_AC, s_LI, s_LJ, s_LA, s_LL, s_Ln, s_LR, s_LC, zleT, zleF, zltT, zltF, zeqT, zeqF, nzleT, nzleF, nzltT, nzltF, nzeqT, nzeqF, znleT, znleF, znltT, znltF, zneqT, zneqF, z_add, z_sub, z_mul, z_neg, z_an, z_na, z_sn, z_ns, z_mn, z_nm]
    · rw [z, z2]
      simp (disch := omega) only [k_let, Option.bind_some, ↓reduceIte, eq_self, true_or, or_true, n01_0, n01_1, kb_or, kb_0T, kb_0F, vn_0, vn_1, vn_k, nl_0, nl_1, nl_2, nl_3, nl_4, nl_5, nl_6, nl_7, nl_8, nl_9, nl_10, nl_11, nl_12, nl_13, nl_14, nl_15, nl_16, nl_20, nl_21, nl_22, nl_23, nl_24, nl_25, nl_26, nl_27, nl_28, nl_29, nl_30, nl_31, nl_32, nl_40, nl_41, nl_42, nl_43, nl_45, nl_47, nl_48, nl_50, nl_57, nl_59, nl_60, nl_61, nl_62, nl_63, nl_64, nl_91, nl_93, nl_94, nl_97, nl_98, nl_100, nl_110, nl_122, nl_130, nl_144, nl_160, nl_240, nl_241, nl_255, nl_256, nl_400, nl_800, nl_900, nl_999, nl_1000, nl_1001, nl_1024, nl_1103, nl_1928, nl_4321, nl_5560, nl_12345, nl_1000000, nl_1000003, nl_252645135, nl_858993459, nl_1431655765, nl_1000000000, nI_add, pk_mul, n_sub, n_neg, n_cl, leT, leF, ltT, ltF, eqT, eqF, kbT, s_II, s_In, s_IJ, s_IA, s_IL, s_IR, s_IC, s_JI, s_JJ, s_Jn, s_JA, s_JL, s_JR, s_JC, s_AI, s_AJ, s_AA, s_An, s_AL, s_AR, s_AC, s_LI, s_LJ, s_LA, s_LL, s_Ln, s_LR, s_LC, zleT, zleF, zltT, zltF, zeqT, zeqF, nzleT, nzleF, nzltT, nzltF, nzeqT, nzeqF, znleT, znleF, znltT, znltF, zneqT, zneqF, z_add, z_sub, z_mul, z_neg, z_an, z_na, z_sn, z_ns, z_mn, z_nm]
  rw [e149]
  unfold f_X12_behindSum_149 f_X12_behindSum_188 f_X12_behindSum_205 f_X12_behindSum_210 f_X12_behindSum_231
  rw [hJ, hic]
  simp only [List.mem_cons, Prod.mk.injEq, List.not_mem_nil, or_false] at hop
  rcases hop with ⟨rfl, rfl⟩ | ⟨rfl, rfl⟩ | ⟨rfl, rfl⟩
  · simp (disch := omega) only [k_let, Option.bind_some, ↓reduceIte, eq_self, true_or, or_true, n01_0, n01_1, kb_or, kb_0T, kb_0F, vn_0, vn_1, vn_k, nl_0, nl_1, nl_2, nl_3, nl_4, nl_5, nl_6, nl_7, nl_8, nl_9, nl_10, nl_11, nl_12, nl_13, nl_14, nl_15, nl_16, nl_20, nl_21, nl_22, nl_23, nl_24, nl_25, nl_26, nl_27, nl_28, nl_29, nl_30, nl_31, nl_32, nl_40, nl_41, nl_42, nl_43, nl_45, nl_47, nl_48, nl_50, nl_57, nl_59, nl_60, nl_61, nl_62, nl_63, nl_64, nl_91, nl_93, nl_94, nl_97, nl_98, nl_100, nl_110, nl_122, nl_130, nl_144, nl_160, nl_240, nl_241, nl_255, nl_256, nl_400, nl_800, nl_900, nl_999, nl_1000, nl_1001, nl_1024, nl_1103, nl_1928, nl_4321, nl_5560, nl_12345, nl_1000000, nl_1000003, nl_252645135, nl_858993459, nl_1431655765, nl_1000000000, nI_add, pk_mul, n_sub, n_neg, n_cl, leT, leF, ltT, ltF, eqT, eqF, kbT, s_II, s_In, s_IJ, s_IA, s_IL, s_IR, s_IC, s_JI, s_JJ, s_Jn, s_JA, s_JL, s_JR, s_JC, s_AI, s_AJ, s_AA, s_An, s_AL, s_AR, s_AC, s_LI, s_LJ, s_LA, s_LL, s_Ln, s_LR, s_LC, e_isSign hM.1, hS, decide_true, kB_t, Nat.reduceEqDiff, decide_false, kB_f, e1, m1.2.1, e2, e3]
  · simp (disch := omega) only [k_let, Option.bind_some, ↓reduceIte, eq_self, true_or, or_true, n01_0, n01_1, kb_or, kb_0T, kb_0F, vn_0, vn_1, vn_k, nl_0, nl_1, nl_2, nl_3, nl_4, nl_5, nl_6, nl_7, nl_8, nl_9, nl_10, nl_11, nl_12, nl_13, nl_14, nl_15, nl_16, nl_20, nl_21, nl_22, nl_23, nl_24, nl_25, nl_26, nl_27, nl_28, nl_29, nl_30, nl_31, nl_32, nl_40, nl_41, nl_42, nl_43, nl_45, nl_47, nl_48, nl_50, nl_57, nl_59, nl_60, nl_61, nl_62, nl_63, nl_64, nl_91, nl_93, nl_94, nl_97, nl_98, nl_100, nl_110, nl_122, nl_130, nl_144, nl_160, nl_240, nl_241, nl_255, nl_256, nl_400, nl_800, nl_900, nl_999, nl_1000, nl_1001, nl_1024, nl_1103, nl_1928, nl_4321, nl_5560, nl_12345, nl_1000000, nl_1000003, nl_252645135, nl_858993459, nl_1431655765, nl_1000000000, nI_add, pk_mul, n_sub, n_neg, n_cl, leT, leF, ltT, ltF, eqT, eqF, kbT, s_II, s_In, s_IJ, s_IA, s_IL, s_IR, s_IC, s_JI, s_JJ, s_Jn, s_JA, s_JL, s_JR, s_JC, s_AI, s_AJ, s_AA, s_An, s_AL, s_AR, s_AC, s_LI, s_LJ, s_LA, s_LL, s_Ln, s_LR, s_LC, e_isSign hM.1, hS, decide_true, kB_t, Nat.reduceEqDiff, decide_false, kB_f, e1, m1.2.1, e2, e3]
  · simp (disch := omega) only [k_let, Option.bind_some, ↓reduceIte, eq_self, true_or, or_true, n01_0, n01_1, kb_or, kb_0T, kb_0F, vn_0, vn_1, vn_k, nl_0, nl_1, nl_2, nl_3, nl_4, nl_5, nl_6, nl_7, nl_8, nl_9, nl_10, nl_11, nl_12, nl_13, nl_14, nl_15, nl_16, nl_20, nl_21, nl_22, nl_23, nl_24, nl_25, nl_26, nl_27, nl_28, nl_29, nl_30, nl_31, nl_32, nl_40, nl_41, nl_42, nl_43, nl_45, nl_47, nl_48, nl_50, nl_57, nl_59, nl_60, nl_61, nl_62, nl_63, nl_64, nl_91, nl_93, nl_94, nl_97, nl_98, nl_100, nl_110, nl_122, nl_130, nl_144, nl_160, nl_240, nl_241, nl_255, nl_256, nl_400, nl_800, nl_900, nl_999, nl_1000, nl_1001, nl_1024, nl_1103, nl_1928, nl_4321, nl_5560, nl_12345, nl_1000000, nl_1000003, nl_252645135, nl_858993459, nl_1431655765, nl_1000000000, nI_add, pk_mul, n_sub, n_neg, n_cl, leT, leF, ltT, ltF, eqT, eqF, kbT, s_II, s_In, s_IJ, s_IA, s_IL, s_IR, s_IC, s_JI, s_JJ, s_Jn, s_JA, s_JL, s_JR, s_JC, s_AI, s_AJ, s_AA, s_An, s_AL, s_AR, s_AC, s_LI, s_LJ, s_LA, s_LL, s_Ln, s_LR, s_LC, e_isSign hM.1, hS, decide_true, kB_t, Nat.reduceEqDiff, decide_false, kB_f, e1, m1.2.1, e2, e3]
theorem e_cmpF {t : Nat → Nat} {n a c q o tb : Nat} {P K : Pi_} {U : St} (hM : Mxp t n a a c q o (P ++ K) U) (hNo : NoA t n a) (hs : isS t n a 60 = false ∧ isS t n a 62 = false ∧ isS t n a 61 = false) (hP : ∀ x, x ∈ P → 5 ≤ bn x.1) (hK : tpL 4 K) (hC : Cx tb K) : ∃ T, f_X12_behindSum (nI tb) U = some (nI 1, T) ∧ gI T 41 = nI 1 ∧ gI T 40 = nI a ∧ gI T 43 = nI c ∧ gI T 45 = nI (P ++ K).length ∧ PLs T (P ++ K) ∧ Pk c (P ++ K) ∧ c + (P ++ K).length ≤ 400 ∧ FMb U T := by
  have hl := hM.lt.1
  obtain ⟨T, e, r⟩ := hM.bad
  refine ⟨T, ?_, r⟩
  rw [e_bs_no hM.1 hNo]
  have hinn : inn (P ++ K) = inn K := inn_app (fun x hx => by have := hP x hx; omega)
  have hic : icp (P ++ K) = false := (icp_app hP).trans (icp_f hK)
  have hI := e_inner hM.2.2.2.2.2.2.1 hM.2.2.2.2.2.2.2.1 hM.2.2.2.2.1 hl
  have hJ := e_icp hM.2.2.2.2.2.2.1 hM.2.2.2.2.2.2.2.1 hM.2.2.2.2.1 hl
  have e149 : f_X12_behindSum_57 (nI tb) (iZ (-1)) U = f_X12_behindSum_149 U := by
    unfold f_X12_behindSum_57
    rw [hI]
    unfold innI
    rw [hinn]
    rcases hC with z | ⟨z, z2⟩
    · rw [z, if_neg (show ¬ (30 : Nat) = 0 by decide)]
      simp (disch := omega) only [k_let, Option.bind_some, ↓reduceIte, eq_self, true_or, or_true, n01_0, n01_1, kb_or, kb_0T, kb_0F, vn_0, vn_1, vn_k, nl_0, nl_1, nl_2, nl_3, nl_4, nl_5, nl_6, nl_7, nl_8, nl_9, nl_10, nl_11, nl_12, nl_13, nl_14, nl_15, nl_16, nl_20, nl_21, nl_22, nl_23, nl_24, nl_25, nl_26, nl_27, nl_28, nl_29, nl_30, nl_31, nl_32, nl_40, nl_41, nl_42, nl_43, nl_45, nl_47, nl_48, nl_50, nl_57, nl_59, nl_60, nl_61, nl_62, nl_63, nl_64, nl_91, nl_93, nl_94, nl_97, nl_98, nl_100, nl_110, nl_122, nl_130, nl_144, nl_160, nl_240, nl_241, nl_255, nl_256, nl_400, nl_800, nl_900, nl_999, nl_1000, nl_1001, nl_1024, nl_1103, nl_1928, nl_4321, nl_5560, nl_12345, nl_1000000, nl_1000003, nl_252645135, nl_858993459, nl_1431655765, nl_1000000000, nI_add, pk_mul, n_sub, n_neg, n_cl, leT, leF, ltT, ltF, eqT, eqF, kbT, s_II, s_In, s_IJ, s_IA, s_IL, s_IR, s_IC, s_JI, s_JJ, s_Jn, s_JA, s_JL, s_JR, s_JC, s_AI, s_AJ, s_AA, s_An, s_AL, s_AR, s_AC, s_LI, s_LJ, s_LA, s_LL, s_Ln, s_LR, s_LC, zleT, zleF, zltT, zltF, zeqT, zeqF, nzleT, nzleF, nzltT, nzltF, nzeqT, nzeqF, znleT, znleF, znltT, znltF, zneqT, zneqF, z_add, z_sub, z_mul, z_neg, z_an, z_na, z_sn, z_ns, z_mn, z_nm]
    · rw [z, z2]
      simp (disch := omega) only [k_let, Option.bind_some, ↓reduceIte, eq_self, true_or, or_true, n01_0, n01_1, kb_or, kb_0T, kb_0F, vn_0, vn_1, vn_k, nl_0, nl_1, nl_2, nl_3, nl_4, nl_5, nl_6, nl_7, nl_8, nl_9, nl_10, nl_11, nl_12, nl_13, nl_14, nl_15, nl_16, nl_20, nl_21, nl_22, nl_23, nl_24, nl_25, nl_26, nl_27, nl_28, nl_29, nl_30, nl_31, nl_32, nl_40, nl_41, nl_42, nl_43, nl_45, nl_47, nl_48, nl_50, nl_57, nl_59, nl_60, nl_61, nl_62, nl_63, nl_64, nl_91, nl_93, nl_94, nl_97, nl_98, nl_100, nl_110, nl_122, nl_130, nl_144, nl_160, nl_240, nl_241, nl_255, nl_256, nl_400, nl_800, nl_900, nl_999, nl_1000, nl_1001, nl_1024, nl_1103, nl_1928, nl_4321, nl_5560, nl_12345, nl_1000000, nl_1000003, nl_252645135, nl_858993459, nl_1431655765, nl_1000000000, nI_add, pk_mul, n_sub, n_neg, n_cl, leT, leF, ltT, ltF, eqT, eqF, kbT, s_II, s_In, s_IJ, s_IA, s_IL, s_IR, s_IC, s_JI, s_JJ, s_Jn, s_JA, s_JL, s_JR, s_JC, s_AI, s_AJ, s_AA, s_An, s_AL, s_AR, s_AC, s_LI, s_LJ, s_LA, s_LL, s_Ln, s_LR, s_LC, zleT, zleF, zltT, zltF, zeqT, zeqF, nzleT, nzleF, nzltT, nzltF, nzeqT, nzeqF, znleT, znleF, znltT, znltF, zneqT, zneqF, z_add, z_sub, z_mul, z_neg, z_an, z_na, z_sn, z_ns, z_mn, z_nm]
  rw [e149]
  unfold f_X12_behindSum_149 f_X12_behindSum_188 f_X12_behindSum_205 f_X12_behindSum_210 f_X12_behindSum_231
  rw [hJ, hic]
  simp (disch := omega) only [k_let, Option.bind_some, ↓reduceIte, eq_self, true_or, or_true, n01_0, n01_1, kb_or, kb_0T, kb_0F, vn_0, vn_1, vn_k, nl_0, nl_1, nl_2, nl_3, nl_4, nl_5, nl_6, nl_7, nl_8, nl_9, nl_10, nl_11, nl_12, nl_13, nl_14, nl_15, nl_16, nl_20, nl_21, nl_22, nl_23, nl_24, nl_25, nl_26, nl_27, nl_28, nl_29, nl_30, nl_31, nl_32, nl_40, nl_41, nl_42, nl_43, nl_45, nl_47, nl_48, nl_50, nl_57, nl_59, nl_60, nl_61, nl_62, nl_63, nl_64, nl_91, nl_93, nl_94, nl_97, nl_98, nl_100, nl_110, nl_122, nl_130, nl_144, nl_160, nl_240, nl_241, nl_255, nl_256, nl_400, nl_800, nl_900, nl_999, nl_1000, nl_1001, nl_1024, nl_1103, nl_1928, nl_4321, nl_5560, nl_12345, nl_1000000, nl_1000003, nl_252645135, nl_858993459, nl_1431655765, nl_1000000000, nI_add, pk_mul, n_sub, n_neg, n_cl, leT, leF, ltT, ltF, eqT, eqF, kbT, s_II, s_In, s_IJ, s_IA, s_IL, s_IR, s_IC, s_JI, s_JJ, s_Jn, s_JA, s_JL, s_JR, s_JC, s_AI, s_AJ, s_AA, s_An, s_AL, s_AR, s_AC, s_LI, s_LJ, s_LA, s_LL, s_Ln, s_LR, s_LC, e_isSign hM.1, hs.1, hs.2.1, hs.2.2, kB_f, e, r.1]
theorem e_told {t : Nat → Nat} {n a c q o tb op : Nat} {P K : Pi_} {U : St} (ho : 24 ≤ op ∧ op ≤ 26) (hM : Mxp t n a a c q o (P ++ (op, 0) :: K) U) (hNo : NoA t n a) (hP : ∀ x, x ∈ P → 5 ≤ bn x.1) (hC : Cx tb K) : f_X12_behindSum (nI tb) U = some (nI 2, U) := by
  have hl := hM.lt.1
  rw [e_bs_no hM.1 hNo]
  have hinn : inn (P ++ (op, 0) :: K) = inn K := (inn_app (fun x hx => by have := hP x hx; omega)).trans (if_neg (show ¬ 30 ≤ op by omega))
  have hic : icp (P ++ (op, 0) :: K) = true := by
    rw [icp_app hP]
    show (if op ≤ 23 then icp K else decide (op ≤ 26)) = true
    rw [if_neg (by omega)]
    exact decide_eq_true (by omega)
  have hI := e_inner hM.2.2.2.2.2.2.1 hM.2.2.2.2.2.2.2.1 hM.2.2.2.2.1 hl
  have hJ := e_icp hM.2.2.2.2.2.2.1 hM.2.2.2.2.2.2.2.1 hM.2.2.2.2.1 hl
  have e149 : f_X12_behindSum_57 (nI tb) (iZ (-1)) U = f_X12_behindSum_149 U := by
    unfold f_X12_behindSum_57
    rw [hI]
    unfold innI
    rw [hinn]
    rcases hC with z | ⟨z, z2⟩
    · rw [z, if_neg (show ¬ (30 : Nat) = 0 by decide)]
      simp (disch := omega) only [k_let, Option.bind_some, ↓reduceIte, eq_self, true_or, or_true, n01_0, n01_1, kb_or, kb_0T, kb_0F, vn_0, vn_1, vn_k, nl_0, nl_1, nl_2, nl_3, nl_4, nl_5, nl_6, nl_7, nl_8, nl_9, nl_10, nl_11, nl_12, nl_13, nl_14, nl_15, nl_16, nl_20, nl_21, nl_22, nl_23, nl_24, nl_25, nl_26, nl_27, nl_28, nl_29, nl_30, nl_31, nl_32, nl_40, nl_41, nl_42, nl_43, nl_45, nl_47, nl_48, nl_50, nl_57, nl_59, nl_60, nl_61, nl_62, nl_63, nl_64, nl_91, nl_93, nl_94, nl_97, nl_98, nl_100, nl_110, nl_122, nl_130, nl_144, nl_160, nl_240, nl_241, nl_255, nl_256, nl_400, nl_800, nl_900, nl_999, nl_1000, nl_1001, nl_1024, nl_1103, nl_1928, nl_4321, nl_5560, nl_12345, nl_1000000, nl_1000003, nl_252645135, nl_858993459, nl_1431655765, nl_1000000000, nI_add, pk_mul, n_sub, n_neg, n_cl, leT, leF, ltT, ltF, eqT, eqF, kbT, s_II, s_In, s_IJ, s_IA, s_IL, s_IR, s_IC, s_JI, s_JJ, s_Jn, s_JA, s_JL, s_JR, s_JC, s_AI, s_AJ, s_AA, s_An, s_AL, s_AR, s_AC, s_LI, s_LJ, s_LA, s_LL, s_Ln, s_LR, s_LC, zleT, zleF, zltT, zltF, zeqT, zeqF, nzleT, nzleF, nzltT, nzltF, nzeqT, nzeqF, znleT, znleF, znltT, znltF, zneqT, zneqF, z_add, z_sub, z_mul, z_neg, z_an, z_na, z_sn, z_ns, z_mn, z_nm]
    · rw [z, z2]
      simp (disch := omega) only [k_let, Option.bind_some, ↓reduceIte, eq_self, true_or, or_true, n01_0, n01_1, kb_or, kb_0T, kb_0F, vn_0, vn_1, vn_k, nl_0, nl_1, nl_2, nl_3, nl_4, nl_5, nl_6, nl_7, nl_8, nl_9, nl_10, nl_11, nl_12, nl_13, nl_14, nl_15, nl_16, nl_20, nl_21, nl_22, nl_23, nl_24, nl_25, nl_26, nl_27, nl_28, nl_29, nl_30, nl_31, nl_32, nl_40, nl_41, nl_42, nl_43, nl_45, nl_47, nl_48, nl_50, nl_57, nl_59, nl_60, nl_61, nl_62, nl_63, nl_64, nl_91, nl_93, nl_94, nl_97, nl_98, nl_100, nl_110, nl_122, nl_130, nl_144, nl_160, nl_240, nl_241, nl_255, nl_256, nl_400, nl_800, nl_900, nl_999, nl_1000, nl_1001, nl_1024, nl_1103, nl_1928, nl_4321, nl_5560, nl_12345, nl_1000000, nl_1000003, nl_252645135, nl_858993459, nl_1431655765, nl_1000000000, nI_add, pk_mul, n_sub, n_neg, n_cl, leT, leF, ltT, ltF, eqT, eqF, kbT, s_II, s_In, s_IJ, s_IA, s_IL, s_IR, s_IC, s_JI, s_JJ, s_Jn, s_JA, s_JL, s_JR, s_JC, s_AI, s_AJ, s_AA, s_An, s_AL, s_AR, s_AC, s_LI, s_LJ, s_LA, s_LL, s_Ln, s_LR, s_LC, zleT, zleF, zltT, zltF, zeqT, zeqF, nzleT, nzleF, nzltT, nzltF, nzeqT, nzeqF, znleT, znleF, znltT, znltF, zneqT, zneqF, z_add, z_sub, z_mul, z_neg, z_an, z_na, z_sn, z_ns, z_mn, z_nm]
  rw [e149]
  unfold f_X12_behindSum_149
  rw [hJ, hic]
  simp (disch := omega) only [k_let, Option.bind_some, ↓reduceIte, eq_self, true_or, or_true, n01_0, n01_1, kb_or, kb_0T, kb_0F, vn_0, vn_1, vn_k, nl_0, nl_1, nl_2, nl_3, nl_4, nl_5, nl_6, nl_7, nl_8, nl_9, nl_10, nl_11, nl_12, nl_13, nl_14, nl_15, nl_16, nl_20, nl_21, nl_22, nl_23, nl_24, nl_25, nl_26, nl_27, nl_28, nl_29, nl_30, nl_31, nl_32, nl_40, nl_41, nl_42, nl_43, nl_45, nl_47, nl_48, nl_50, nl_57, nl_59, nl_60, nl_61, nl_62, nl_63, nl_64, nl_91, nl_93, nl_94, nl_97, nl_98, nl_100, nl_110, nl_122, nl_130, nl_144, nl_160, nl_240, nl_241, nl_255, nl_256, nl_400, nl_800, nl_900, nl_999, nl_1000, nl_1001, nl_1024, nl_1103, nl_1928, nl_4321, nl_5560, nl_12345, nl_1000000, nl_1000003, nl_252645135, nl_858993459, nl_1431655765, nl_1000000000, nI_add, pk_mul, n_sub, n_neg, n_cl, leT, leF, ltT, ltF, eqT, eqF, kbT, s_II, s_In, s_IJ, s_IA, s_IL, s_IR, s_IC, s_JI, s_JJ, s_Jn, s_JA, s_JL, s_JR, s_JC, s_AI, s_AJ, s_AA, s_An, s_AL, s_AR, s_AC, s_LI, s_LJ, s_LA, s_LL, s_Ln, s_LR, s_LC, kB_t]
theorem MOk.cmp {t : Nat → Nat} {n tb d a q a1 q1 a2 q2 ch op : Nat} {δ1 δ2 : Den} (hop : (ch, op) ∈ [(60, 24), (62, 25), (61, 26)]) (h1 : MOk t n tb 1 3 5 5 d a q a1 q1 δ1) (hs : isS t n a1 ch = true) (h2 : MOk t n tb 1 3 5 5 d (tnx t n a1) q1 a2 q2 δ2) (hN : NoA t n a2) (hq : q < q1) (hq2 : q1 < q2) (hx2 : tnx t n a1 < a2) : MOk t n tb 1 2 4 4 d a q a2 q2 (dBin (op - 18) δ1 δ2) := by
  have ho : 24 ≤ op ∧ op ≤ 26 := by simp at hop; omega
  have hb4 : bn op = 4 := by
    simp only [List.mem_cons, Prod.mk.injEq, List.not_mem_nil, or_false] at hop
    rcases hop with ⟨rfl, rfl⟩ | ⟨rfl, rfl⟩ | ⟨rfl, rfl⟩ <;> rfl
  have hx := tnx_lt (t := t) (n := n) (a := a1) (by rw [(isS_kd hs).1]; decide)
  intro c K U hM hK hC
  have hC := hC rfl
  obtain ⟨k1, c1, P1, U1, r1, m1, p1, f1, lo1, lc1, cm1, kk1, kb1⟩ := h1 c K U hM (hK.mono (by decide)) (fun z => absurd z (by decide))
  obtain ⟨T, e2, m2, f2, x2, lc2⟩ := e_cmp (tb := tb) hop m1 hs (fun x hx => (p1 x hx).1) hK hC
  have r2 := lq3 m1.2.1 e2
  obtain ⟨k3, c3, P3, U3, r3, m3, p3, f3, lo3, lc3, cm3, kk3, kb3⟩ := h2 _ _ T m2 (tpL.cons (by show bn op < 5; omega)) (fun z => absurd z (by decide))
  have r4 := lq3 m3.2.1 (e_told (tb := tb) ho m3 hN (fun x hx => (p3 x hx).1) hC)
  have hcc := cm3.1.1
  refine ⟨k1 + 1 + k3 + 1, c3, P3 ++ [(op, 0)], U3, ((r1.trans r2).trans r3).trans r4, by rw [List.append_assoc]; exact m3, fun x hx => ?_, (f1.trans f2).trans f3, fun p hp => ?_, by omega, ?_, by omega, by omega⟩
  · rcases List.mem_append.mp hx with z | z
    · exact ⟨by have := (p3 x z).1; omega, fun w => by have := (p3 x z).2 w; omega⟩
    · rw [List.mem_singleton.mp z]
      exact ⟨by show 4 ≤ bn op; omega, fun w => by have w : op = 28 ∨ op = 29 := w; omega⟩
  · have l2 := fin_lo P1 (Fx U1) c1 c lc1 (fun x hx => (p1 x hx).2) p hp
    rw [lo3 p (by omega), x2, l2, lo1 p hp]
  · rw [fin_app]
    generalize hF : (fin_ (Fx U3) c3 P3).1 = F3 at cm3 ⊢
    generalize hc3 : (fin_ (Fx U3) c3 P3).2 = e3 at cm3 hcc ⊢
    generalize hc1 : (fin_ (Fx U1) c1 P1).2 = e1 at cm1 m2 lo3 lc3 cm3 lc2 hcc p3
    have hf : fin_ F3 e3 [(op, 0)] = (fun p => if p = e3 then dR (nI op) (nI 0) else F3 p, e3 + 1) := by
      show (if op = 28 then _ else if op = 29 then _ else _) = _
      rw [if_neg (by omega), if_neg (by omega)]
      rfl
    rw [hf]
    have lo4 : ∀ p, p < e1 → F3 p = Fx U3 p := fun p hp => by
      rw [← hF]
      exact fin_lo P3 (Fx U3) c3 e1 lc3 (fun x hx => (p3 x hx).2) p hp
    refine (Cm.bin (op := op - 18) (x := 0) (cm1.congr (fun p g1 g2 => ?_)) (cm3.congr (fun p g1 g2 => ?_)) ?_ (by omega) (by omega)).mono (by omega)
    · show (if p = e3 then _ else F3 p) = _
      rw [if_neg (by omega), lo4 p g2, lo3 p g2, x2]
    · show (if p = e3 then _ else F3 p) = _
      rw [if_neg (by omega)]
    · show (if e3 = e3 then _ else F3 e3) = _
      rw [if_pos rfl, dR_op op (by omega) (by omega)]
theorem MFl.cmp1 {t : Nat → Nat} {n tb d a q af : Nat} (h : MFl t n tb 1 3 5 d a q af) : MFl t n tb 1 2 4 d a q af := fun c K U hM hK _ => h c K U hM (hK.mono (by decide)) (fun z => absurd z (by decide))
theorem MFl.cmp2 {t : Nat → Nat} {n tb d a q a1 q1 : Nat} {δ1 : Den} (h1 : MOk t n tb 1 3 5 5 d a q a1 q1 δ1) (hN : NoA t n a1) (hs : isS t n a1 60 = false ∧ isS t n a1 62 = false ∧ isS t n a1 61 = false) : MFl t n tb 1 2 4 d a q a1 := by
  intro c K U hM hK hC
  have hC := hC rfl
  obtain ⟨k1, c1, P1, U1, r1, m1, p1, f1, lo1, lc1, cm1, kk1, kb1⟩ := h1 c K U hM (hK.mono (by decide)) (fun z => absurd z (by decide))
  have ha1 := m1.1.2.1
  obtain ⟨T, e2, v1, v2, v3, v4, v5, v6, v7, v8⟩ := e_cmpF (tb := tb) m1 hN hs (fun x hx => (p1 x hx).1) hK hC
  exact ⟨k1 + 1, 1, T, _, _, by omega, r1.trans (lq3 m1.2.1 e2), v1, v2, v3, v4, v5, v6, v7, FM.b f1 v8⟩
theorem MFl.cmp3 {t : Nat → Nat} {n tb d a q a1 q1 af ch op : Nat} {δ1 : Den} (hop : (ch, op) ∈ [(60, 24), (62, 25), (61, 26)]) (h1 : MOk t n tb 1 3 5 5 d a q a1 q1 δ1) (hs : isS t n a1 ch = true) (h2 : MFl t n tb 1 3 5 d (tnx t n a1) q1 af) : MFl t n tb 1 2 4 d a q af := by
  have hb4 : bn op = 4 := by
    simp only [List.mem_cons, Prod.mk.injEq, List.not_mem_nil, or_false] at hop
    rcases hop with ⟨rfl, rfl⟩ | ⟨rfl, rfl⟩ | ⟨rfl, rfl⟩ <;> rfl
  have hx := tnx_lt (t := t) (n := n) (a := a1) (by rw [(isS_kd hs).1]; decide)
  intro c K U hM hK hC
  have hC := hC rfl
  obtain ⟨k1, c1, P1, U1, r1, m1, p1, f1, lo1, lc1, cm1, kk1, kb1⟩ := h1 c K U hM (hK.mono (by decide)) (fun z => absurd z (by decide))
  obtain ⟨T, e2, m2, f2, x2, lc2⟩ := e_cmp (tb := tb) hop m1 hs (fun x hx => (p1 x hx).1) hK hC
  exact (h2 _ _ T m2 (tpL.cons (by show bn op < 5; omega)) (fun z => absurd z (by decide))).pre (r1.trans (lq3 m1.2.1 e2)) (by omega) (f1.trans f2)
