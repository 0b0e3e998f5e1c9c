/-! part d5: the reference's steps behind a sum, and its leaves -/
theorem isS_kd {t : Nat → Nat} {n a c : Nat} (h : isS t n a c = true) : kd t n a = 3 ∧ t a = c := by unfold isS at h; exact of_decide_eq_true h
theorem isS_of {t : Nat → Nat} {n a c : Nat} (h : isS t n a c = true) (x : Nat) : isS t n a x = decide (c = x) := by
  obtain ⟨h1, h2⟩ := isS_kd h
  unfold isS
  by_cases q : c = x
  · rw [decide_eq_true q, decide_eq_true ⟨h1, h2.trans q⟩]
  · rw [decide_eq_false q, decide_eq_false (fun z => q (h2.symm.trans z.2))]
theorem isW_kd {t : Nat → Nat} {n a i : Nat} (h : isW t n a i = true) : kd t n a = 1 := by
  unfold isW at h
  rw [Bool.and_eq_true, decide_eq_true_eq] at h
  exact h.1.1
theorem isW_no {t : Nat → Nat} {n a c : Nat} (h : isS t n a c = true) (i : Nat) : isW t n a i = false := by
  cases q : isW t n a i with
  | false => rfl
  | true => have := isW_kd q; have := (isS_kd h).1; omega
theorem isS_no {t : Nat → Nat} {n a i : Nat} (h : isW t n a i = true) (c : Nat) : isS t n a c = false := by
  cases q : isS t n a c with
  | false => rfl
  | true => have := isW_kd h; have := (isS_kd q).1; omega
theorem dR_op : ∀ op, op < 28 → 20 ≤ op → dR (nI op) (nI 0) = (op - 18, 0) := by decide +kernel
/-- no sign of a sum here -/
def NoA (t : Nat → Nat) (n a : Nat) : Prop := isS t n a 43 = false ∧ isS t n a 45 = false ∧ isS t n a 42 = false ∧ isS t n a 47 = false
theorem e_bs57 {t : Nat → Nat} {n a c q o op tb : Nat} {P K : Pi_} {U : St} (ho : 20 ≤ op ∧ op ≤ 23) (hM : Mxp t n a a c q o (P ++ K) U) (hk : kd t n a ≠ 0) (hP : ∀ x, x ∈ P → bn op ≤ bn x.1) (hK : tpL (bn op) K) : ∃ T, f_X12_behindSum_57 (nI tb) (nI op) U = some (nI 1, T) ∧ Mxp t n (tnx t n a) (tnx t n a) (fin_ (Fx U) c P).2 q o ((op, 0) :: K) T ∧ FM U T ∧ Fx T = (fin_ (Fx U) c P).1 ∧ c ≤ (fin_ (Fx U) c P).2 := by
  have hx := tnx_lt hk
  have hn := hM.1.1.1
  have b6 := bn_le op
  obtain ⟨T, e1, m1, f1, x1, c1, -, -⟩ := hM.settle (L := bn op) (by omega) hP hK
  obtain ⟨V, e2, m2, f2, x2⟩ := m1.push (op := op) (at_ := 0) (by omega) ⟨by omega, by omega, by omega⟩ (by omega)
  obtain ⟨W, e3, m3, f3, x3⟩ := m2.next (by omega)
  refine ⟨W, ?_, m3, (f1.trans f2).trans f3, by rw [x3, x2, x1], c1⟩
  unfold f_X12_behindSum_57
  simp (disch := omega) only [k_let, Option.bind_some, ↓reduceIte, eq_self, true_or, or_true, n01_0, n01_1, kb_or, kb_0T, kb_0F, vn_0, vn_1, vn_k, nl_0, nl_1, nl_2, nl_3, nl_4, nl_5, nl_6, nl_7, nl_8, nl_9, nl_10, nl_11, nl_12, nl_13, nl_14, nl_15, nl_16, nl_20, nl_21, nl_22, nl_23, nl_24, nl_25, nl_26, nl_27, nl_28, nl_29, nl_30, nl_31, nl_32, nl_40, nl_41, nl_42, nl_43, nl_45, nl_47, nl_48, nl_50, nl_57, nl_59, nl_60, nl_61, nl_62, nl_63, nl_64, nl_91, nl_93, nl_94, nl_97, nl_98, nl_100, nl_110, nl_122, nl_130, nl_144, nl_160, nl_240, nl_241, nl_255, nl_256, nl_400, nl_800, nl_900, nl_999, nl_1000, nl_1001, nl_1024, nl_1103, nl_1928, nl_4321, nl_5560, nl_12345, nl_1000000, nl_1000003, nl_252645135, nl_858993459, nl_1431655765, nl_1000000000, nI_add, pk_mul, n_sub, n_neg, n_cl, leT, leF, ltT, ltF, eqT, eqF, kbT, s_II, s_In, s_IJ, s_IA, s_IL, s_IR, s_IC, s_JI, s_JJ, s_Jn, s_JA, s_JL, s_JR, s_JC, s_AI, s_AJ, s_AA, s_An, s_AL, s_AR, s_AC, s_LI, s_LJ, s_LA, s_LL, s_Ln, s_LR, s_LC, zleT, zleF, zltT, zltF, zeqT, zeqF, nzleT, nzleF, nzltT, nzltF, nzeqT, nzeqF, znleT, znleF, znltT, znltF, zneqT, zneqF, z_add, z_sub, z_mul, z_neg, z_an, z_na, z_sn, z_ns, z_mn, z_nm]
  rw [e_binds (by omega)]
  simp only [Option.bind_some, e1, e2, e3]
theorem e_bs_op {t : Nat → Nat} {n a c q o ch op tb : Nat} {P K : Pi_} {U : St} (hop : (ch, op) ∈ [(43, 20), (45, 21), (42, 22), (47, 23)]) (hM : Mxp t n a a c q o (P ++ K) U) (hs : isS t n a ch = true) (hP : ∀ x, x ∈ P → bn op ≤ bn x.1) (hK : tpL (bn op) K) : ∃ T, f_X12_behindSum (nI tb) U = some (nI 1, T) ∧ Mxp t n (tnx t n a) (tnx t n a) (fin_ (Fx U) c P).2 q o ((op, 0) :: K) T ∧ FM U T ∧ Fx T = (fin_ (Fx U) c P).1 ∧ c ≤ (fin_ (Fx U) c P).2 := by
  have hS := isS_of hs
  have hk : kd t n a ≠ 0 := by rw [(isS_kd hs).1]; decide
  have ho : 20 ≤ op ∧ op ≤ 23 := by simp at hop; omega
  obtain ⟨T, e, r⟩ := e_bs57 (tb := tb) ho hM hk hP hK
  refine ⟨T, ?_, r⟩
  rw [← e]
  unfold f_X12_behindSum
  simp only [List.mem_cons, Prod.mk.injEq, List.not_mem_nil, or_false] at hop
  rcases hop with ⟨rfl, rfl⟩ | ⟨rfl, rfl⟩ | ⟨rfl, rfl⟩ | ⟨rfl, rfl⟩
  · simp (disch := omega) only [k_let, Option.bind_some, ↓reduceIte, eq_self, true_or, or_true, n01_0, n01_1, kb_or, kb_0T, kb_0F, vn_0, vn_1, vn_k, nl_0, nl_1, nl_2, nl_3, nl_4, nl_5, nl_6, nl_7, nl_8, nl_9, nl_10, nl_11, nl_12, nl_13, nl_14, nl_15, nl_16, nl_20, nl_21, nl_22, nl_23, nl_24, nl_25, nl_26, nl_27, nl_28, nl_29, nl_30, nl_31, nl_32, nl_40, nl_41, nl_42, nl_43, nl_45, nl_47, nl_48, nl_50, nl_57, nl_59, nl_60, nl_61, nl_62, nl_63, nl_64, nl_91, nl_93, nl_94, nl_97, nl_98, nl_100, nl_110, nl_122, nl_130, nl_144, nl_160, nl_240, nl_241, nl_255, nl_256, nl_400, nl_800, nl_900, nl_999, nl_1000, nl_1001, nl_1024, nl_1103, nl_1928, nl_4321, nl_5560, nl_12345, nl_1000000, nl_1000003, nl_252645135, nl_858993459, nl_1431655765, nl_1000000000, nI_add, pk_mul, n_sub, n_neg, n_cl, leT, leF, ltT, ltF, eqT, eqF, kbT, s_II, s_In, s_IJ, s_IA, s_IL, s_IR, s_IC, s_JI, s_JJ, s_Jn, s_JA, s_JL, s_JR, s_JC, s_AI, s_AJ, s_AA, s_An, s_AL, s_AR, s_AC, s_LI, s_LJ, s_LA, s_LL, s_Ln, s_LR, s_LC, e_isSign hM.1, hS, decide_true, kB_t]
  · simp (disch := omega) only [k_let, Option.bind_some, ↓reduceIte, eq_self, true_or, or_true, n01_0, n01_1, kb_or, kb_0T, kb_0F, vn_0, vn_1, vn_k, nl_0, nl_1, nl_2, nl_3, nl_4, nl_5, nl_6, nl_7, nl_8, nl_9, nl_10, nl_11, nl_12, nl_13, nl_14, nl_15, nl_16, nl_20, nl_21, nl_22, nl_23, nl_24, nl_25, nl_26, nl_27, nl_28, nl_29, nl_30, nl_31, nl_32, nl_40, nl_41, nl_42, nl_43, nl_45, nl_47, nl_48, nl_50, nl_57, nl_59, nl_60, nl_61, nl_62, nl_63, nl_64, nl_91, nl_93, nl_94, nl_97, nl_98, nl_100, nl_110, nl_122, nl_130, nl_144, nl_160, nl_240, nl_241, nl_255, nl_256, nl_400, nl_800, nl_900, nl_999, nl_1000, nl_1001, nl_1024, nl_1103, nl_1928, nl_4321, nl_5560, nl_12345, nl_1000000, nl_1000003, nl_252645135, nl_858993459, nl_1431655765, nl_1000000000, nI_add, pk_mul, n_sub, n_neg, n_cl, leT, leF, ltT, ltF, eqT, eqF, kbT, s_II, s_In, s_IJ, s_IA, s_IL, s_IR, s_IC, s_JI, s_JJ, s_Jn, s_JA, s_JL, s_JR, s_JC, s_AI, s_AJ, s_AA, s_An, s_AL, s_AR, s_AC, s_LI, s_LJ, s_LA, s_LL, s_Ln, s_LR, s_LC, e_isSign hM.1, hS, decide_true, kB_t, Nat.reduceEqDiff, decide_false, kB_f]
  · simp (disch := omega) only [k_let, Option.bind_some, ↓reduceIte, eq_self, true_or, or_true, n01_0, n01_1, kb_or, kb_0T, kb_0F, vn_0, vn_1, vn_k, nl_0, nl_1, nl_2, nl_3, nl_4, nl_5, nl_6, nl_7, nl_8, nl_9, nl_10, nl_11, nl_12, nl_13, nl_14, nl_15, nl_16, nl_20, nl_21, nl_22, nl_23, nl_24, nl_25, nl_26, nl_27, nl_28, nl_29, nl_30, nl_31, nl_32, nl_40, nl_41, nl_42, nl_43, nl_45, nl_47, nl_48, nl_50, nl_57, nl_59, nl_60, nl_61, nl_62, nl_63, nl_64, nl_91, nl_93, nl_94, nl_97, nl_98, nl_100, nl_110, nl_122, nl_130, nl_144, nl_160, nl_240, nl_241, nl_255, nl_256, nl_400, nl_800, nl_900, nl_999, nl_1000, nl_1001, nl_1024, nl_1103, nl_1928, nl_4321, nl_5560, nl_12345, nl_1000000, nl_1000003, nl_252645135, nl_858993459, nl_1431655765, nl_1000000000, nI_add, pk_mul, n_sub, n_neg, n_cl, leT, leF, ltT, ltF, eqT, eqF, kbT, s_II, s_In, s_IJ, s_IA, s_IL, s_IR, s_IC, s_JI, s_JJ, s_Jn, s_JA, s_JL, s_JR, s_JC, s_AI, s_AJ, s_AA, s_An, s_AL, s_AR, s_AC, s_LI, s_LJ, s_LA, s_LL, s_Ln, s_LR, s_LC, e_isSign hM.1, hS, decide_true, kB_t, Nat.reduceEqDiff, decide_false, kB_f]
  · simp (disch := omega) only [k_let, Option.bind_some, ↓reduceIte, eq_self, true_or, or_true, n01_0, n01_1, kb_or, kb_0T, kb_0F, vn_0, vn_1, vn_k, nl_0, nl_1, nl_2, nl_3, nl_4, nl_5, nl_6, nl_7, nl_8, nl_9, nl_10, nl_11, nl_12, nl_13, nl_14, nl_15, nl_16, nl_20, nl_21, nl_22, nl_23, nl_24, nl_25, nl_26, nl_27, nl_28, nl_29, nl_30, nl_31, nl_32, nl_40, nl_41, nl_42, nl_43, nl_45, nl_47, nl_48, nl_50, nl_57, nl_59, nl_60, nl_61, nl_62, nl_63, nl_64, nl_91, nl_93, nl_94, nl_97, nl_98, nl_100, nl_110, nl_122, nl_130, nl_144, nl_160, nl_240, nl_241, nl_255, nl_256, nl_400, nl_800, nl_900, nl_999, nl_1000, nl_1001, nl_1024, nl_1103, nl_1928, nl_4321, nl_5560, nl_12345, nl_1000000, nl_1000003, nl_252645135, nl_858993459, nl_1431655765, nl_1000000000, nI_add, pk_mul, n_sub, n_neg, n_cl, leT, leF, ltT, ltF, eqT, eqF, kbT, s_II, s_In, s_IJ, s_IA, s_IL, s_IR, s_IC, s_JI, s_JJ, s_Jn, s_JA, s_JL, s_JR, s_JC, s_AI, s_AJ, s_AA, s_An, s_AL, s_AR, s_AC, s_LI, s_LJ, s_LA, s_LL, s_Ln, s_LR, s_LC, e_isSign hM.1, hS, decide_true, kB_t, Nat.reduceEqDiff, decide_false, kB_f]
theorem e_bs_no {t : Nat → Nat} {n a tb : Nat} {U : St} (hM : Mtk t n a U) (hs : NoA t n a) : f_X12_behindSum (nI tb) U = f_X12_behindSum_57 (nI tb) (iZ (-1)) U := by
  obtain ⟨h1, h2, h3, h4⟩ := hs
  unfold f_X12_behindSum
  simp (disch := omega) only [k_let, Option.bind_some, ↓reduceIte, eq_self, true_or, or_true, n01_0, n01_1, kb_or, kb_0T, kb_0F, vn_0, vn_1, vn_k, nl_0, nl_1, nl_2, nl_3, nl_4, nl_5, nl_6, nl_7, nl_8, nl_9, nl_10, nl_11, nl_12, nl_13, nl_14, nl_15, nl_16, nl_20, nl_21, nl_22, nl_23, nl_24, nl_25, nl_26, nl_27, nl_28, nl_29, nl_30, nl_31, nl_32, nl_40, nl_41, nl_42, nl_43, nl_45, nl_47, nl_48, nl_50, nl_57, nl_59, nl_60, nl_61, nl_62, nl_63, nl_64, nl_91, nl_93, nl_94, nl_97, nl_98, nl_100, nl_110, nl_122, nl_130, nl_144, nl_160, nl_240, nl_241, nl_255, nl_256, nl_400, nl_800, nl_900, nl_999, nl_1000, nl_1001, nl_1024, nl_1103, nl_1928, nl_4321, nl_5560, nl_12345, nl_1000000, nl_1000003, nl_252645135, nl_858993459, nl_1431655765, nl_1000000000, nI_add, pk_mul, n_sub, n_neg, n_cl, leT, leF, ltT, ltF, eqT, eqF, kbT, s_II, s_In, s_IJ, s_IA, s_IL, s_IR, s_IC, s_JI, s_JJ, s_Jn, s_JA, s_JL, s_JR, s_JC, s_AI, s_AJ, s_AA, s_An, s_AL, s_AR, s_AC, s_LI, s_LJ, s_LA, s_LL, s_Ln, s_LR, s_LC, e_isSign hM, h1, h2, h3, h4, kB_f]
  rfl
theorem MOk.bin {t : Nat → Nat} {n tb d a q a1 q1 a2 q2 ch op L : Nat} {δ1 δ2 : Den} (hop : (ch, op, L) ∈ [(43, 20, 5), (45, 21, 5), (42, 22, 6), (47, 23, 6)]) (h1 : MOk t n tb 1 3 L L d a q a1 q1 δ1) (hs : isS t n a1 ch = true) (h2 : MOk t n tb 1 3 (L + 1) (L + 1) d (tnx t n a1) q1 a2 q2 δ2) (hq : q < q1) (hq2 : q1 ≤ q2) : MOk t n tb 1 3 L L d a q a2 q2 (dBin (op - 18) δ1 δ2) := by
  have hop' : (ch, op) ∈ [(43, 20), (45, 21), (42, 22), (47, 23)] ∧ bn op = L ∧ 20 ≤ op ∧ op ≤ 23 := by
    simp only [List.mem_cons, Prod.mk.injEq, List.not_mem_nil, or_false] at hop
    rcases hop with ⟨rfl, rfl, rfl⟩ | ⟨rfl, rfl, rfl⟩ | ⟨rfl, rfl, rfl⟩ | ⟨rfl, rfl, rfl⟩ <;> decide
  obtain ⟨o1, o2, o3, o4⟩ := hop'
  subst o2
  have hx := tnx_lt (t := t) (n := n) (a := a1) (by rw [(isS_kd hs).1]; decide)
  intro c K U hM hK hC
  obtain ⟨k1, c1, P1, U1, r1, m1, p1, f1, lo1, lc1, cm1, kk1, kb1⟩ := h1 c K U hM hK (fun z => absurd z (by decide))
  obtain ⟨T, e2, m2, f2, x2, lc2⟩ := e_bs_op (tb := tb) o1 m1 hs (fun x hx => (p1 x hx).1) hK
  have r2 := lq3 m1.2.1 e2
  obtain ⟨k3, c3, P3, U3, r3, m3, p3, f3, lo3, lc3, cm3, kk3, kb3⟩ := h2 _ _ T m2 (tpL.cons (by show bn op < bn op + 1; omega)) (fun z => absurd z (by decide))
  have hcc := cm3.1.1
  refine ⟨k1 + 1 + k3, c3, P3 ++ [(op, 0)], U3, (r1.trans r2).trans r3, by rw [List.append_assoc]; exact m3, fun x hx => ?_, (f1.trans f2).trans f3, fun p hp => ?_, by omega, ?_, by omega, by omega⟩
  · rcases List.mem_append.mp hx with z | z
    · exact ⟨by have := (p3 x z).1; omega, fun w => by have := (p3 x z).2 w; omega⟩
    · rw [List.mem_singleton.mp z]
      exact ⟨Nat.le_refl _, fun w => by have w : op = 28 ∨ op = 29 := w; omega⟩
  · have l2 := fin_lo P1 (Fx U1) c1 c lc1 (fun x hx => (p1 x hx).2) p hp
    rw [lo3 p (by omega), x2, l2, lo1 p hp]
  · rw [fin_app]
    generalize hF : (fin_ (Fx U3) c3 P3).1 = F3 at cm3 ⊢
    generalize hc3 : (fin_ (Fx U3) c3 P3).2 = e3 at cm3 hcc ⊢
    generalize hc1 : (fin_ (Fx U1) c1 P1).2 = e1 at cm1 m2 lo3 lc3 cm3 lc2 hcc p3
    have hf : fin_ F3 e3 [(op, 0)] = (fun p => if p = e3 then dR (nI op) (nI 0) else F3 p, e3 + 1) := by
      show (if op = 28 then _ else if op = 29 then _ else _) = _
      rw [if_neg (by omega), if_neg (by omega)]
      rfl
    rw [hf]
    have lo4 : ∀ p, p < e1 → F3 p = Fx U3 p := fun p hp => by
      rw [← hF]
      exact fin_lo P3 (Fx U3) c3 e1 lc3 (fun x hx => (p3 x hx).2) p hp
    refine (Cm.bin (op := op - 18) (x := 0) (cm1.congr (fun p g1 g2 => ?_)) (cm3.congr (fun p g1 g2 => ?_)) ?_ (by omega) (by omega)).mono (by omega)
    · show (if p = e3 then _ else F3 p) = _
      rw [if_neg (by omega), lo4 p g2, lo3 p g2, x2]
    · show (if p = e3 then _ else F3 p) = _
      rw [if_neg (by omega)]
    · show (if e3 = e3 then _ else F3 e3) = _
      rw [if_pos rfl, dR_op op (by omega) (by omega)]
theorem MFl.bin {t : Nat → Nat} {n tb d a q a1 q1 af ch op L : Nat} {δ1 : Den} (hop : (ch, op, L) ∈ [(43, 20, 5), (45, 21, 5), (42, 22, 6), (47, 23, 6)]) (h1 : MOk t n tb 1 3 L L d a q a1 q1 δ1) (hs : isS t n a1 ch = true) (h2 : MFl t n tb 1 3 (L + 1) d (tnx t n a1) q1 af) : MFl t n tb 1 3 L d a q af := by
  have hop' : (ch, op) ∈ [(43, 20), (45, 21), (42, 22), (47, 23)] ∧ bn op = L ∧ 20 ≤ op ∧ op ≤ 23 := by
    simp only [List.mem_cons, Prod.mk.injEq, List.not_mem_nil, or_false] at hop
    rcases hop with ⟨rfl, rfl, rfl⟩ | ⟨rfl, rfl, rfl⟩ | ⟨rfl, rfl, rfl⟩ | ⟨rfl, rfl, rfl⟩ <;> decide
  obtain ⟨o1, o2, o3, o4⟩ := hop'
  subst o2
  have hx := tnx_lt (t := t) (n := n) (a := a1) (by rw [(isS_kd hs).1]; decide)
  intro c K U hM hK hC
  obtain ⟨k1, c1, P1, U1, r1, m1, p1, f1, lo1, lc1, cm1, kk1, kb1⟩ := h1 c K U hM hK (fun z => absurd z (by decide))
  obtain ⟨T, e2, m2, f2, x2, lc2⟩ := e_bs_op (tb := tb) o1 m1 hs (fun x hx => (p1 x hx).1) hK
  have r2 := lq3 m1.2.1 e2
  exact (h2 _ _ T m2 (tpL.cons (by show bn op < bn op + 1; omega)) (fun z => absurd z (by decide))).pre (r1.trans r2) (by omega) (f1.trans f2)
