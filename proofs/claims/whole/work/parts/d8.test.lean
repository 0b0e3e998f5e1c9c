/-! part d8: the reference's not, round brackets, and, or -/
theorem lp_conv {tb m : Nat} {t : Nat → Nat} {n a : Nat} {U : St} (hM : Mtk t n a U) (h41 : gI U 41 = nI 0) (h3 : isW t n a 3 = false) (h40 : isS t n a 40 = false) : f_X12_readExpression_20 (m + 1) (nI tb) (nI 0) U = f_X12_readExpression_20 (m + 1) (nI tb) (nI 1) U := by
  have e1 : f_X12_isWord (14836 : Int64) U = some (kB (isW t n a 3), U) := e_isWord (i := 3) hM (by decide)
  have e : f_X12_readPlain U = f_X12_readPart U := by
    unfold f_X12_readPlain
    rw [e1, h3]
    simp (disch := omega) only [k_let, Option.bind_some, ↓reduceIte, eq_self, true_or, or_true, n01_0, n01_1, kb_or, kb_0T, kb_0F, vn_0, vn_1, vn_k, nl_0, nl_1, nl_2, nl_3, nl_4, nl_5, nl_6, nl_7, nl_8, nl_9, nl_10, nl_11, nl_12, nl_13, nl_14, nl_15, nl_16, nl_20, nl_21, nl_22, nl_23, nl_24, nl_25, nl_26, nl_27, nl_28, nl_29, nl_30, nl_31, nl_32, nl_40, nl_41, nl_42, nl_43, nl_45, nl_47, nl_48, nl_50, nl_57, nl_59, nl_60, nl_61, nl_62, nl_63, nl_64, nl_91, nl_93, nl_94, nl_97, nl_98, nl_100, nl_110, nl_122, nl_130, nl_144, nl_160, nl_240, nl_241, nl_255, nl_256, nl_400, nl_800, nl_900, nl_999, nl_1000, nl_1001, nl_1024, nl_1103, nl_1928, nl_4321, nl_5560, nl_12345, nl_1000000, nl_1000003, nl_252645135, nl_858993459, nl_1431655765, nl_1000000000, leT, leF, ltT, ltF, eqT, eqF, kbT, kB_f, e_isSign hM, h40]
    cases f_X12_readPart U <;> rfl
  rw [f_X12_readExpression_20, f_X12_readExpression_20]
  simp (disch := omega) only [k_let, Option.bind_some, ↓reduceIte, eq_self, true_or, or_true, n01_0, n01_1, kb_or, kb_0T, kb_0F, vn_0, vn_1, vn_k, nl_0, nl_1, nl_2, nl_3, nl_4, nl_5, nl_6, nl_7, nl_8, nl_9, nl_10, nl_11, nl_12, nl_13, nl_14, nl_15, nl_16, nl_20, nl_21, nl_22, nl_23, nl_24, nl_25, nl_26, nl_27, nl_28, nl_29, nl_30, nl_31, nl_32, nl_40, nl_41, nl_42, nl_43, nl_45, nl_47, nl_48, nl_50, nl_57, nl_59, nl_60, nl_61, nl_62, nl_63, nl_64, nl_91, nl_93, nl_94, nl_97, nl_98, nl_100, nl_110, nl_122, nl_130, nl_144, nl_160, nl_240, nl_241, nl_255, nl_256, nl_400, nl_800, nl_900, nl_999, nl_1000, nl_1001, nl_1024, nl_1103, nl_1928, nl_4321, nl_5560, nl_12345, nl_1000000, nl_1000003, nl_252645135, nl_858993459, nl_1431655765, nl_1000000000, nI_add, pk_mul, n_sub, n_neg, n_cl, leT, leF, ltT, ltF, eqT, eqF, kbT, s_II, s_In, s_IJ, s_IA, s_IL, s_IR, s_IC, s_JI, s_JJ, s_Jn, s_JA, s_JL, s_JR, s_JC, s_AI, s_AJ, s_AA, s_An, s_AL, s_AR, s_AC, s_LI, s_LJ, s_LA, s_LL, s_Ln, s_LR, s_LC, h41, e]
theorem MOk.t0 {t : Nat → Nat} {n tb Tout Lc Lq d a q a' q' : Nat} {δ : Den} (h : MOk t n tb 1 Tout Lc Lq d a q a' q' δ) (h3 : isW t n a 3 = false) (h40 : isS t n a 40 = false) : MOk t n tb 0 Tout Lc Lq d a q a' q' δ := by
  intro c K U hM hK hC
  obtain ⟨k, c', P, U', e1, r⟩ := h c K U hM hK hC
  have kk := r.2.2.2.2.2.2.1
  refine ⟨k, c', P, U', fun m => ?_, r⟩
  obtain ⟨j, rfl⟩ : ∃ j, k = j + 1 := ⟨k - 1, by omega⟩
  rw [← e1 m]
  exact lp_conv (m := m + j) hM.1 hM.2.1 h3 h40
theorem MFl.t0 {t : Nat → Nat} {n tb Tout Lc d a q af : Nat} (h : MFl t n tb 1 Tout Lc d a q af) (h3 : isW t n a 3 = false) (h40 : isS t n a 40 = false) : MFl t n tb 0 Tout Lc d a q af := by
  intro c K U hM hK hC
  obtain ⟨k, T', U', c', K', h1, h2, g1, g⟩ := h c K U hM hK hC
  have hn := hM.1.1.1
  refine ⟨k, T', U', c', K', h1, fun m => ?_, g1, g⟩
  obtain ⟨j, rfl⟩ : ∃ j, k = j + 1 := ⟨k - 1, by omega⟩
  rw [← h2 m]
  exact lp_conv (m := m + j) hM.1 hM.2.1 h3 h40
theorem e_not {t : Nat → Nat} {n a c q o tb : Nat} {K : Pi_} {U : St} (hM : Mxp t n a a c q o K U) (hw : isW t n a 3 = true) : ∃ T, Lp tb 1 0 0 U T ∧ Mxp t n (tnx t n a) (tnx t n a) c q o ((27, 0) :: K) T ∧ FM U T ∧ Fx T = Fx U := by
  have hx := tnx_lt (t := t) (n := n) (a := a) (by rw [isW_kd hw]; decide)
  have hn := hM.1.1.1
  obtain ⟨T1, e1, m1, f1, x1⟩ := hM.push (op := 27) (at_ := 0) (by omega) ⟨by omega, by omega, by omega⟩ (by omega)
  obtain ⟨T2, e2, m2, f2, x2⟩ := m1.next (by omega)
  refine ⟨T2, lq0 hM.2.1 ?_, m2, f1.trans f2, by rw [x2, x1]⟩
  have e3 : f_X12_isWord (14836 : Int64) U = some (kB (isW t n a 3), U) := e_isWord (i := 3) hM.1 (by decide)
  unfold f_X12_readPlain
  rw [e3, hw]
  simp (disch := omega) only [k_let, Option.bind_some, ↓reduceIte, eq_self, true_or, or_true, n01_0, n01_1, kb_or, kb_0T, kb_0F, vn_0, vn_1, vn_k, nl_0, nl_1, nl_2, nl_3, nl_4, nl_5, nl_6, nl_7, nl_8, nl_9, nl_10, nl_11, nl_12, nl_13, nl_14, nl_15, nl_16, nl_20, nl_21, nl_22, nl_23, nl_24, nl_25, nl_26, nl_27, nl_28, nl_29, nl_30, nl_31, nl_32, nl_40, nl_41, nl_42, nl_43, nl_45, nl_47, nl_48, nl_50, nl_57, nl_59, nl_60, nl_61, nl_62, nl_63, nl_64, nl_91, nl_93, nl_94, nl_97, nl_98, nl_100, nl_110, nl_122, nl_130, nl_144, nl_160, nl_240, nl_241, nl_255, nl_256, nl_400, nl_800, nl_900, nl_999, nl_1000, nl_1001, nl_1024, nl_1103, nl_1928, nl_4321, nl_5560, nl_12345, nl_1000000, nl_1000003, nl_252645135, nl_858993459, nl_1431655765, nl_1000000000, leT, leF, ltT, ltF, eqT, eqF, kbT, kB_t, e1, e2]
theorem MOk.not {t : Nat → Nat} {n tb d a q a1 q1 : Nat} {δ : Den} (hw : isW t n a 3 = true) (h : MOk t n tb 0 2 4 3 d (tnx t n a) q a1 q1 δ) (h01 : T01 δ) : MOk t n tb 0 2 4 3 d a q a1 q1 (dNot δ) := by
  have hx := tnx_lt (t := t) (n := n) (a := a) (by rw [isW_kd hw]; decide)
  intro c K U hM hK hC
  obtain ⟨T, r0, m0, f0, x0⟩ := e_not (tb := tb) hM hw
  obtain ⟨k1, c1, P1, U1, r1, m1, p1, f1, lo1, lc1, cm1, kk1, kb1⟩ := h c ((27, 0) :: K) T m0 (tpL.cons (by decide)) (fun z => hC z)
  have hcc := cm1.1.1
  refine ⟨1 + k1, c1, P1 ++ [(27, 0)], U1, r0.trans r1, by rw [List.append_assoc]; exact m1, fun x hx => ?_, f0.trans f1, fun p hp => by rw [lo1 p hp, x0], lc1, ?_, by omega, by omega⟩
  · rcases List.mem_append.mp hx with z | z
    · exact p1 x z
    · rw [List.mem_singleton.mp z]
      exact ⟨by decide, fun w => by simp at w⟩
  · rw [fin_app]
    generalize (fin_ (Fx U1) c1 P1).1 = F3 at cm1 ⊢
    generalize (fin_ (Fx U1) c1 P1).2 = e3 at cm1 hcc ⊢
    show Cm (fun p => if p = e3 then dR (nI 27) (nI 0) else F3 p) c (e3 + 1) _ _
    refine Cm.not (x := 0) (cm1.congr (fun p g1 g2 => ?_)) h01 ?_
    · show (if p = e3 then _ else F3 p) = _
      rw [if_neg (by omega)]
    · show (if e3 = e3 then _ else F3 e3) = _
      rw [if_pos rfl]
      rfl
theorem MFl.not {t : Nat → Nat} {n tb d a q af : Nat} (hw : isW t n a 3 = true) (h : MFl t n tb 0 2 4 d (tnx t n a) q af) : MFl t n tb 0 2 4 d a q af := by
  have hx := tnx_lt (t := t) (n := n) (a := a) (by rw [isW_kd hw]; decide)
  intro c K U hM hK hC
  obtain ⟨T, r0, m0, f0, x0⟩ := e_not (tb := tb) hM hw
  exact (h c ((27, 0) :: K) T m0 (tpL.cons (by decide)) (fun z => hC z)).pre r0 (by omega) f0
/-- and, or: a place in the code, kept on the pile -/
theorem e_ao {t : Nat → Nat} {n a c q o tb i op : Nat} {P K : Pi_} {U : St} (hio : (i = 4 ∧ op = 28) ∨ (i = 5 ∧ op = 29)) (hM : Mxp t n a a c q o (P ++ K) U) (hw : isW t n a i = true) (hP : ∀ x, x ∈ P → bn op ≤ bn x.1) (hK : tpL (bn op) K) : ∃ T, Lp tb 1 2 0 U T ∧ Mxp t n (tnx t n a) (tnx t n a) ((fin_ (Fx U) c P).2 + 1) q o ((op, (fin_ (Fx U) c P).2) :: K) T ∧ FM U T ∧ (∀ p, p < (fin_ (Fx U) c P).2 → Fx T p = (fin_ (Fx U) c P).1 p) ∧ c ≤ (fin_ (Fx U) c P).2 := by
  have hk := isW_kd hw
  have hx := tnx_lt (t := t) (n := n) (a := a) (by rw [hk]; decide)
  have hn := hM.1.1.1
  have ha2 : a + 2 ≤ tnx t n a := by
    have h1 := tnx_le (t := t) (n := n) (a := a) hM.1.2.1
    have h2 : en t n a - a = (wl.getD i []).length := by
      unfold isW at hw
      rw [Bool.and_eq_true, decide_eq_true_eq] at hw
      exact hw.1.2
    have h3 : 2 ≤ (wl.getD i []).length := by rcases hio with ⟨rfl, -⟩ | ⟨rfl, -⟩ <;> decide
    omega
  have hl0 : c + (P ++ K).length ≤ a := hM.2.2.2.2.2.2.2.2.1
  have hpk : (P ++ K).length = P.length + K.length := List.length_append
  obtain ⟨T1, e1, m1, f1, x1, c1, -, c3⟩ := hM.settle (L := bn op) (by have := bn_le op; omega) hP hK
  generalize hf2 : (fin_ (Fx U) c P).2 = c' at m1 c1 c3 ⊢
  generalize hf1 : (fin_ (Fx U) c P).1 = F1 at x1 ⊢
  obtain ⟨h1, h2, h3, h4, h5, h6, h7, h8, h9, h10, h11⟩ := m1
  obtain ⟨T2, g1, g2, g3, g4, g5, g6⟩ := e_mpush h5 (by omega) (nI op) (nI c')
  obtain ⟨T3, d1, d2, d3, d4, d5, d6⟩ := e_emit (U := T2) (c := c') ((g2.I rfl).trans h3) (by omega) (nI op) (nI 0)
  have m3 : Mxp t n a (a + 2) (c' + 1) q o ((op, c') :: K) T3 := by
    refine ⟨(h1.fr g2 rfl rfl rfl rfl rfl rfl).fr d2 rfl rfl rfl rfl rfl rfl, (d2.I rfl).trans ((g2.I rfl).trans h2), d3, (d2.I rfl).trans ((g2.I rfl).trans h4), (d2.I rfl).trans g3, (d2.I rfl).trans ((g2.I rfl).trans h6), ⟨by rw [d2.A rfl]; exact g5, by rw [d2.A rfl]; exact g6, fun _ => d6, h7.congr (c := c') h8 (fun i hi => by rw [d2.A rfl, d2.A rfl]; exact g4 i (by omega)) (fun i hi => by rw [d5 i (by omega), g2.A rfl])⟩, (h8.mono (by omega)).cons ⟨by show 20 ≤ op; omega, by show op < 32; omega, by show c' < 400; omega, fun _ => by show c' < c' + 1; omega⟩, by show c' + 1 + (K.length + 1) ≤ a + 2; omega, by omega, fun i hi => by rw [d2.L rfl, g2.L rfl]; exact h11 i hi⟩
  obtain ⟨T4, b1, m4, b3, b4⟩ := m3.next (by omega)
  have f4 : FM U T4 := ((f1.trans (g2.mono rfl rfl rfl rfl)).trans (d2.mono rfl rfl rfl rfl)).trans b3
  refine ⟨T4, lq2 hM.2.1 ?_, m4, f4, fun p hp => ?_, c1⟩
  · have w4 : f_X12_isWord (1476 : Int64) U = some (kB (isW t n a 4), U) := e_isWord (i := 4) hM.1 (by decide)
    have w5 : f_X12_isWord (498 : Int64) U = some (kB (isW t n a 5), U) := e_isWord (i := 5) hM.1 (by decide)
    unfold f_X12_behindTest f_X12_behindTest_22 f_X12_behindTest_32 f_X12_behindTest_47 f_X12_behindTest_66
    rcases hio with ⟨rfl, rfl⟩ | ⟨rfl, rfl⟩
    · have e1 : f_X12_settle (nI 2) U = some T1 := e1
      rw [w4, hw]
      simp (disch := omega) only [k_let, Option.bind_some, ↓reduceIte, eq_self, true_or, or_true, n01_0, n01_1, kb_or, kb_0T, kb_0F, vn_0, vn_1, vn_k, nl_0, nl_1, nl_2, nl_3, nl_4, nl_5, nl_6, nl_7, nl_8, nl_9, nl_10, nl_11, nl_12, nl_13, nl_14, nl_15, nl_16, nl_20, nl_21, nl_22, nl_23, nl_24, nl_25, nl_26, nl_27, nl_28, nl_29, nl_30, nl_31, nl_32, nl_40, nl_41, nl_42, nl_43, nl_45, nl_47, nl_48, nl_50, nl_57, nl_59, nl_60, nl_61, nl_62, nl_63, nl_64, nl_91, nl_93, nl_94, nl_97, nl_98, nl_100, nl_110, nl_122, nl_130, nl_144, nl_160, nl_240, nl_241, nl_255, nl_256, nl_400, nl_800, nl_900, nl_999, nl_1000, nl_1001, nl_1024, nl_1103, nl_1928, nl_4321, nl_5560, nl_12345, nl_1000000, nl_1000003, nl_252645135, nl_858993459, nl_1431655765, nl_1000000000, leT, leF, ltT, ltF, eqT, eqF, kbT, kB_t, e1, h3, g1, d1, b1]
    · have e1 : f_X12_settle (nI 1) U = some T1 := e1
      have n4 : isW t n a 4 = false := by
        cases z : isW t n a 4 with
        | false => rfl
        | true => exact absurd (isW_inj (by decide) (by decide) z hw) (by decide)
      rw [w4, n4]
      simp (disch := omega) only [k_let, Option.bind_some, ↓reduceIte, eq_self, true_or, or_true, n01_0, n01_1, kb_or, kb_0T, kb_0F, vn_0, vn_1, vn_k, nl_0, nl_1, nl_2, nl_3, nl_4, nl_5, nl_6, nl_7, nl_8, nl_9, nl_10, nl_11, nl_12, nl_13, nl_14, nl_15, nl_16, nl_20, nl_21, nl_22, nl_23, nl_24, nl_25, nl_26, nl_27, nl_28, nl_29, nl_30, nl_31, nl_32, nl_40, nl_41, nl_42, nl_43, nl_45, nl_47, nl_48, nl_50, nl_57, nl_59, nl_60, nl_61, nl_62, nl_63, nl_64, nl_91, nl_93, nl_94, nl_97, nl_98, nl_100, nl_110, nl_122, nl_130, nl_144, nl_160, nl_240, nl_241, nl_255, nl_256, nl_400, nl_800, nl_900, nl_999, nl_1000, nl_1001, nl_1024, nl_1103, nl_1928, nl_4321, nl_5560, nl_12345, nl_1000000, nl_1000003, nl_252645135, nl_858993459, nl_1431655765, nl_1000000000, leT, leF, ltT, ltF, eqT, eqF, kbT, kB_f]
      rw [w5, hw]
      simp (disch := omega) only [k_let, Option.bind_some, ↓reduceIte, eq_self, true_or, or_true, n01_0, n01_1, kb_or, kb_0T, kb_0F, vn_0, vn_1, vn_k, nl_0, nl_1, nl_2, nl_3, nl_4, nl_5, nl_6, nl_7, nl_8, nl_9, nl_10, nl_11, nl_12, nl_13, nl_14, nl_15, nl_16, nl_20, nl_21, nl_22, nl_23, nl_24, nl_25, nl_26, nl_27, nl_28, nl_29, nl_30, nl_31, nl_32, nl_40, nl_41, nl_42, nl_43, nl_45, nl_47, nl_48, nl_50, nl_57, nl_59, nl_60, nl_61, nl_62, nl_63, nl_64, nl_91, nl_93, nl_94, nl_97, nl_98, nl_100, nl_110, nl_122, nl_130, nl_144, nl_160, nl_240, nl_241, nl_255, nl_256, nl_400, nl_800, nl_900, nl_999, nl_1000, nl_1001, nl_1024, nl_1103, nl_1928, nl_4321, nl_5560, nl_12345, nl_1000000, nl_1000003, nl_252645135, nl_858993459, nl_1431655765, nl_1000000000, leT, leF, ltT, ltF, eqT, eqF, kbT, kB_t, e1, h3, g1, d1, b1]
  · rw [b4, d4 p, if_neg (by omega), Fx.fr g2 rfl rfl, x1]
theorem fin_ao {op at_ : Nat} (ho : op = 28 ∨ op = 29) (F : Nat → Nat × Int) (c : Nat) : fin_ F c [(op, at_)] = (fun p => if p = at_ then ((if op = 28 then 11 else 10), (c : Int)) else F p, c) := by
  show (if op = 28 then _ else if op = 29 then _ else _) = _
  rcases ho with rfl | rfl
  · rfl
  · rfl
theorem MOk.ao {t : Nat → Nat} {n tb d a q a1 q1 a2 q2 i op L Lc2 Lq2 : Nat} {δ1 δ2 : Den} (hio : (i = 4 ∧ op = 28 ∧ L = 2) ∨ (i = 5 ∧ op = 29 ∧ L = 1)) (hL : L < Lc2 ∧ L ≤ Lq2) (h1 : MOk t n tb 0 2 L L d a q a1 q1 δ1) (hw : isW t n a1 i = true) (h2 : MOk t n tb 0 2 Lc2 Lq2 d (tnx t n a1) q1 a2 q2 δ2) (hq : q ≤ q1) (hq2 : q1 ≤ q2) : MOk t n tb 0 2 L L d a q a2 q2 (if op = 28 then dAnd δ1 δ2 else dOr δ1 δ2) := by
  have hx := tnx_lt (t := t) (n := n) (a := a1) (by rw [isW_kd hw]; decide)
  have hbn : bn op = L := by rcases hio with ⟨-, rfl, rfl⟩ | ⟨-, rfl, rfl⟩ <;> rfl
  have hio' : (i = 4 ∧ op = 28) ∨ (i = 5 ∧ op = 29) := by omega
  subst hbn
  intro c K U hM hK hC
  obtain ⟨k1, c1, P1, U1, r1, m1, p1, f1, lo1, lc1, cm1, kk1, kb1⟩ := h1 c K U hM hK hC
  obtain ⟨T, r2, m2, f2, x2, lc2⟩ := e_ao (tb := tb) hio' m1 hw (fun x hx => (p1 x hx).1) hK
  have hcx : Cx tb ((op, (fin_ (Fx U1) c1 P1).2) :: K) := by
    have e : inn ((op, (fin_ (Fx U1) c1 P1).2) :: K) = inn K := if_neg (show ¬ 30 ≤ op by omega)
    unfold Cx
    rw [e]
    exact hC rfl
  obtain ⟨k3, c3, P3, U3, r3, m3, p3, f3, lo3, lc3, cm3, kk3, kb3⟩ := h2 _ _ T m2 (tpL.cons (by show bn op < Lc2; omega)) (fun _ => hcx)
  have hcc := cm3.1.1
  have hc1' := cm1.1.1
  refine ⟨k1 + 1 + k3, c3, P3 ++ [(op, (fin_ (Fx U1) c1 P1).2)], U3, (r1.trans r2).trans r3, by rw [List.append_assoc]; exact m3, fun x hx => ?_, (f1.trans f2).trans f3, fun p hp => ?_, by omega, ?_, by omega, by omega⟩
  · rcases List.mem_append.mp hx with z | z
    · exact ⟨by have := (p3 x z).1; omega, fun w => by have := (p3 x z).2 w; omega⟩
    · rw [List.mem_singleton.mp z]
      exact ⟨Nat.le_refl _, fun w => by show c ≤ (fin_ (Fx U1) c1 P1).2; omega⟩
  · have l2 := fin_lo P1 (Fx U1) c1 c lc1 (fun x hx => (p1 x hx).2) p hp
    rw [lo3 p (by omega), x2 p (by omega), l2, lo1 p hp]
  · rw [fin_app]
    generalize hF : (fin_ (Fx U3) c3 P3).1 = F3 at cm3 ⊢
    generalize hc3 : (fin_ (Fx U3) c3 P3).2 = e3 at cm3 hcc ⊢
    generalize hc1 : (fin_ (Fx U1) c1 P1).2 = e1 at cm1 m2 lo3 lc3 cm3 lc2 hcc p3 x2 hc1' ⊢
    rw [fin_ao (by omega)]
    have lo4 : ∀ p, p < e1 → F3 p = Fx U3 p := fun p hp => by
      rw [← hF]
      exact fin_lo P3 (Fx U3) c3 e1 (by omega) (fun x hx w => by have := (p3 x hx).2 w; omega) p hp
    have ca : Cm (fun p => if p = e1 then ((if op = 28 then 11 else 10), (e3 : Int)) else F3 p) c e1 δ1 (q1 - q) := cm1.congr (fun p g1 g2 => by
      show (if p = e1 then _ else F3 p) = _
      rw [if_neg (by omega), lo4 p g2, lo3 p (by omega), x2 p g2])
    have cb : Cm (fun p => if p = e1 then ((if op = 28 then 11 else 10), (e3 : Int)) else F3 p) (e1 + 1) e3 δ2 (q2 - q1) := cm3.congr (fun p g1 g2 => by
      show (if p = e1 then _ else F3 p) = _
      rw [if_neg (by omega)])
    rcases hio' with ⟨-, rfl⟩ | ⟨-, rfl⟩
    · exact (Cm.and ca (if_pos rfl) cb).mono (by omega)
    · exact (Cm.or ca (if_pos rfl) cb).mono (by omega)
theorem MFl.ao {t : Nat → Nat} {n tb d a q a1 q1 af i op L Lc2 : Nat} {δ1 : Den} (hio : (i = 4 ∧ op = 28 ∧ L = 2) ∨ (i = 5 ∧ op = 29 ∧ L = 1)) (hL : L < Lc2) (h1 : MOk t n tb 0 2 L L d a q a1 q1 δ1) (hw : isW t n a1 i = true) (h2 : MFl t n tb 0 2 Lc2 d (tnx t n a1) q1 af) : MFl t n tb 0 2 L d a q af := by
  have hx := tnx_lt (t := t) (n := n) (a := a1) (by rw [isW_kd hw]; decide)
  have hbn : bn op = L := by rcases hio with ⟨-, rfl, rfl⟩ | ⟨-, rfl, rfl⟩ <;> rfl
  have hio' : (i = 4 ∧ op = 28) ∨ (i = 5 ∧ op = 29) := by omega
  subst hbn
  intro c K U hM hK hC
  obtain ⟨k1, c1, P1, U1, r1, m1, p1, f1, lo1, lc1, cm1, kk1, kb1⟩ := h1 c K U hM hK hC
  obtain ⟨T, r2, m2, f2, x2, lc2⟩ := e_ao (tb := tb) hio' m1 hw (fun x hx => (p1 x hx).1) hK
  have hcx : Cx tb ((op, (fin_ (Fx U1) c1 P1).2) :: K) := by
    have e : inn ((op, (fin_ (Fx U1) c1 P1).2) :: K) = inn K := if_neg (show ¬ 30 ≤ op by omega)
    unfold Cx
    rw [e]
    exact hC rfl
  exact (h2 _ _ T m2 (tpL.cons (by show bn op < Lc2; omega)) (fun _ => hcx)).pre (r1.trans r2) (by omega) (f1.trans f2)
