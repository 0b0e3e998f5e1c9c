/-! part dk: a clause, both sides -/
theorem ck_4 {t : Nat → Nat} {n a : Nat} (h : ckN t n a ≠ 0) (ha : a ≤ n) : a + 4 ≤ tnx t n a := by
  have key : ∀ i, i < 3 → isW t n a i = true → a + 4 ≤ tnx t n a := fun i hi h => by
    unfold isW at h
    rw [Bool.and_eq_true, decide_eq_true_eq] at h
    have h2 := h.1.2
    have h3 := (tnx_le (t := t) (n := n) ha).1
    have h4 : ∀ i, i < 3 → 4 ≤ (wl.getD i []).length := by decide +kernel
    have := h4 i hi
    omega
  unfold ckN at h
  by_cases h0 : isW t n a 0 = true
  · exact key 0 (by decide) h0
  · by_cases h1 : isW t n a 1 = true
    · exact key 1 (by decide) h1
    · by_cases h2 : isW t n a 2 = true
      · exact key 2 (by decide) h2
      · rw [if_neg h0, if_neg h1, if_neg h2] at h
        exact absurd rfl h
theorem ck_3 (t : Nat → Nat) (n a : Nat) : ckN t n a ≤ 3 := by
  unfold ckN
  (repeat' split) <;> omega
/-- a clause's record while the reference reads -/
def ClY (T : St) (i c kd : Nat) (ds dt : Den) : Prop := gA T 57 (8 * i) = nI kd ∧ ∃ x j l, l ≤ c ∧ gA T 57 (8 * i + 3) = nI x ∧ gA T 57 (8 * i + 4) = nI j ∧ gA T 57 (8 * i + 5) = nI j ∧ gA T 57 (8 * i + 6) = nI l ∧ x ≤ j ∧ j ≤ l ∧ (kd = 0 → Cm (Fx T) x j ds 50) ∧ ((j < l ∧ Cm (Fx T) j l dt 50) ∨ (j = l ∧ dt = fun _ => some 1))
def ClOk (t : Nat → Nat) (n a e c m : Nat) (S U : St) : Prop := ∃ V a1 e1 q1 T c1 kd ds dt, f_X7_readClause S = some (nI 1, V) ∧ Cs t n a1 e1 q1 V ∧ gI V 12 = nI (m + 1) ∧ m < 12 ∧ FK S V ∧ (∀ i, i < 2 * e → gA V 24 i = gA S 24 i) ∧ (e1 + a + 2 ≤ e + a1 ∧ a ≤ a1 ∧ c ≤ c1) ∧ kd < 3 ∧ T01 dt ∧ ClC (gA V 24) e e1 kd ds dt ∧ f_X12_readClause U = some T ∧ Mc t n a1 c1 q1 (m + 1) T ∧ FR U T ∧ (∀ p, p < c → Fx T p = Fx U p) ∧ (∀ i, i < 8 * m → gA T 57 i = gA U 57 i) ∧ ClY T m c1 kd ds dt
def ClNo (S U : St) : Prop := ∃ V T af, f_X7_readClause S = some (nI 0, V) ∧ FK S V ∧ gI V 15 = nI af ∧ f_X12_readClause U = some T ∧ FRb U T ∧ gI T 41 = nI 1 ∧ gI T 40 = nI af
set_option maxHeartbeats 2000000 in
theorem cl_both {t : Nat → Nat} {n a e q c m : Nat} {S U : St} (hS : Cs t n a e q S) (h12 : gI S 12 = nI m) (hm : m ≤ 12) (he : e ≤ a) (hU : Mc t n a c q m U) : ClOk t n a e c m S U ∨ ClNo S U := by
  have F1 : 1000 < FU := FU_ge (by decide)
  have hn := hS.1.1.1
  have han := hS.1.2.1
  have e0 := l_head hU.1 hU.2.2.1 (by omega) hU.2.2.2.2.2.2.2 3 FU 0 (iZ (-1)) rfl (by omega)
  rw [hd_ck] at e0
  have e0 : f_X12_readClause U = _ := e0
  have bad : ∀ x, ∃ T, f_X12_readClause_54 x (nI 0) U = some T ∧ FRb U T ∧ gI T 41 = nI 1 ∧ gI T 40 = nI a := fun x => by
    obtain ⟨T, b1, b2, b3, b4⟩ := e_mustF hU.1 hU.2.1
    refine ⟨T, ?_, b2.mono rfl rfl rfl rfl, b3, b4⟩
    unfold f_X12_readClause_54
    simp (disch := omega) only [k_let, Option.bind_some, ↓reduceIte, eq_self, true_or, or_true, n01_0, n01_1, kb_or, kb_0T, kb_0F, vn_0, vn_1, vn_k, nl_0, nl_1, nl_2, nl_3, nl_4, nl_5, nl_6, nl_7, nl_8, nl_9, nl_10, nl_11, nl_12, nl_13, nl_14, nl_15, nl_16, nl_20, nl_21, nl_22, nl_23, nl_24, nl_25, nl_26, nl_27, nl_28, nl_29, nl_30, nl_31, nl_32, nl_40, nl_41, nl_42, nl_43, nl_45, nl_47, nl_48, nl_50, nl_57, nl_59, nl_60, nl_61, nl_62, nl_63, nl_64, nl_91, nl_93, nl_94, nl_97, nl_98, nl_100, nl_110, nl_122, nl_130, nl_144, nl_160, nl_240, nl_241, nl_255, nl_256, nl_400, nl_800, nl_900, nl_999, nl_1000, nl_1001, nl_1024, nl_1103, nl_1928, nl_4321, nl_5560, nl_12345, nl_1000000, nl_1000003, nl_252645135, nl_858993459, nl_1431655765, nl_1000000000, nI_add, pk_mul, n_sub, n_neg, n_cl, leT, leF, ltT, ltF, eqT, eqF, kbT, s_II, s_In, s_IJ, s_IA, s_IL, s_IR, s_IC, s_JI, s_JJ, s_Jn, s_JA, s_JL, s_JR, s_JC, s_AI, s_AJ, s_AA, s_An, s_AL, s_AR, s_AC, s_LI, s_LJ, s_LA, s_LL, s_Ln, s_LR, s_LC, b1, b3]
  by_cases hk : ckN t n a = 0
  · right
    have hh : (if ckN t n a = 0 then iZ (-1) else nI (ckN t n a - 1)) = iZ (-1) := if_pos hk
    rw [hh, if_pos rfl] at e0
    obtain ⟨T, b1, b2, b3, b4⟩ := bad (iZ (-1))
    refine ⟨S, T, a, ?_, Fr.refl S, hS.1.2.2.1, e0.trans b1, b2, b3, b4⟩
    unfold f_X7_readClause
    rw [e_clauseKind hS.1, if_pos hk]
    simp (disch := omega) only [k_let, Option.bind_some, ↓reduceIte, eq_self, true_or, or_true, n01_0, n01_1, kb_or, kb_0T, kb_0F, vn_0, vn_1, vn_k, nl_0, nl_1, nl_2, nl_3, nl_4, nl_5, nl_6, nl_7, nl_8, nl_9, nl_10, nl_11, nl_12, nl_13, nl_14, nl_15, nl_16, nl_20, nl_21, nl_22, nl_23, nl_24, nl_25, nl_26, nl_27, nl_28, nl_29, nl_30, nl_31, nl_32, nl_40, nl_41, nl_42, nl_43, nl_45, nl_47, nl_48, nl_50, nl_57, nl_59, nl_60, nl_61, nl_62, nl_63, nl_64, nl_91, nl_93, nl_94, nl_97, nl_98, nl_100, nl_110, nl_122, nl_130, nl_144, nl_160, nl_240, nl_241, nl_255, nl_256, nl_400, nl_800, nl_900, nl_999, nl_1000, nl_1001, nl_1024, nl_1103, nl_1928, nl_4321, nl_5560, nl_12345, nl_1000000, nl_1000003, nl_252645135, nl_858993459, nl_1431655765, nl_1000000000, nI_add, pk_mul, n_sub, n_neg, n_cl, leT, leF, ltT, ltF, eqT, eqF, kbT, s_II, s_In, s_IJ, s_IA, s_IL, s_IR, s_IC, s_JI, s_JJ, s_Jn, s_JA, s_JL, s_JR, s_JC, s_AI, s_AJ, s_AA, s_An, s_AL, s_AR, s_AC, s_LI, s_LJ, s_LA, s_LL, s_Ln, s_LR, s_LC, zleT, zleF, zltT, zltF, zeqT, zeqF, nzleT, nzleF, nzltT, nzltF, nzeqT, nzeqF, znleT, znleF, znltT, znltF, zneqT, zneqF, z_add, z_sub, z_mul, z_neg, z_an, z_na, z_sn, z_ns, z_mn, z_nm, f_X7_readClause_19]
  · obtain ⟨kdn, hkd, hk3⟩ : ∃ kdn, ckN t n a = kdn + 1 ∧ kdn < 3 := ⟨ckN t n a - 1, by omega, by have := ck_3 t n a; omega⟩
    by_cases hm12 : m < 12
    · obtain ⟨V, v1, v2, v3, v4, v5, v6⟩ := c_head hS h12 hm12 hkd hk3 he
      obtain ⟨W, w1, w2, w3, w4, w5, w6, w7⟩ := m_head hU hm12 hkd hk3
      have h4 := ck_4 hk han
      by_cases c0 : kdn = 0
      · subst c0
        rw [if_pos rfl] at v1
        rw [if_pos (show nI 0 = (0 : Int32) from rfl)] at w1
        rcases c_Sum (tb := 0) (c_ib 12 0 (by omega) (by omega)) v2 (by omega) with ⟨S2, a2, e2, q2, δ, r1, ⟨b1, b2, b3, b4, b5, b6, b7, b8⟩, r3, -⟩ | ⟨S2, af, e2, r1, r2, r3, r4, r5, r6⟩
        · obtain ⟨T, c1, t1, t2, t3, t4, t5⟩ := w2.sum b8 r3
          have t1 : f_X12_readExpression (0 : Int32) W = some T := t1
          have hc : f_X7_readClause S = f_X7_readClause_57 (nI (2 * e)) S2 := by
            rw [v1, r1]
            simp (disch := omega) only [k_let, Option.bind_some, ↓reduceIte, eq_self, true_or, or_true, n01_0, n01_1, kb_or, kb_0T, kb_0F, vn_0, vn_1, vn_k, nl_0, nl_1, nl_2, nl_3, nl_4, nl_5, nl_6, nl_7, nl_8, nl_9, nl_10, nl_11, nl_12, nl_13, nl_14, nl_15, nl_16, nl_20, nl_21, nl_22, nl_23, nl_24, nl_25, nl_26, nl_27, nl_28, nl_29, nl_30, nl_31, nl_32, nl_40, nl_41, nl_42, nl_43, nl_45, nl_47, nl_48, nl_50, nl_57, nl_59, nl_60, nl_61, nl_62, nl_63, nl_64, nl_91, nl_93, nl_94, nl_97, nl_98, nl_100, nl_110, nl_122, nl_130, nl_144, nl_160, nl_240, nl_241, nl_255, nl_256, nl_400, nl_800, nl_900, nl_999, nl_1000, nl_1001, nl_1024, nl_1103, nl_1928, nl_4321, nl_5560, nl_12345, nl_1000000, nl_1000003, nl_252645135, nl_858993459, nl_1431655765, nl_1000000000, nI_add, pk_mul, n_sub, n_neg, n_cl, leT, leF, ltT, ltF, eqT, eqF, kbT, s_II, s_In, s_IJ, s_IA, s_IL, s_IR, s_IC, s_JI, s_JJ, s_Jn, s_JA, s_JL, s_JR, s_JC, s_AI, s_AJ, s_AA, s_An, s_AL, s_AR, s_AC, s_LI, s_LJ, s_LA, s_LL, s_Ln, s_LR, s_LC]
          have hr : f_X12_readClause U = f_X12_readClause_134 (nI (8 * m)) T := by
            rw [w1, t1, Option.bind_some]
          have hl7 := b7.lt
          have hl5 := t5.lt
          have hq2 := b1.2.2.2.2
          rcases cl_tail (e0 := e) b1 ((b2.I rfl).trans v3) hm12 (by omega) (by omega) t2 with ⟨V3, a3, e3, q3, T3, c3, dt, z1, z2, z3, z4, z5, z6, ⟨z7, z8⟩, z9, y1, y2, y3, y4, y5, y6, y7, y8, y9, x1⟩ | ⟨V3, T3, af, z1, z2, z3, z4, z5, z6, z7⟩
          · left
            have hly := y1.lt
            have hc3 : c1 ≤ c3 := by rcases x1 with ⟨x1, -⟩ | ⟨x1, -⟩ <;> omega
            refine ⟨V3, a3, e3, q3, T3, c3, 0, δ, dt, hc.trans z1, z2, z3, hm12, (v4.trans (b2.mono rfl rfl rfl rfl)).trans z4, fun i hi => ?_, ⟨by omega, by omega, by omega⟩, hk3, z9, ⟨by omega, ?_, z5, e2, ?_, y1⟩, hr.trans y2, y3, (w3.trans (t3.mono rfl rfl rfl rfl)).trans y4, fun p hp => ?_, fun i hi => ?_, ?_, c, c1, c3, Nat.le_refl _, ?_, y7, y8, y9, by omega, hc3, fun _ => ?_, x1⟩
            · rw [z6 i (by omega) (by omega), b3 i (by omega), v6 i hi]
            · rw [z6 _ (by omega) (by omega), b3 _ (by omega), v5]
            · rw [if_pos rfl]
              refine (b7.congr (fun p h1 h2 => ?_)).mono (by omega)
              unfold Fc
              rw [z6 _ (by omega) (by omega), z6 _ (by omega) (by omega)]
            · rw [y5 p (by omega), t4 p hp, w4]
            · rw [y6 i (by omega), t3.A rfl, w7 i hi]
            · rw [y6 _ (by omega), t3.A rfl, w5]
            · rw [y6 _ (by omega), t3.A rfl, w6]
            · exact (t5.congr (fun p _ h2 => y5 p h2)).mono (by omega)
          · right
            exact ⟨V3, T3, af, hc.trans z1, (v4.trans (b2.mono rfl rfl rfl rfl)).trans z2, z3, hr.trans z4, FR.b (w3.trans (t3.mono rfl rfl rfl rfl)) z5, z6, z7⟩
        · right
          obtain ⟨T, t1, t2, t3, t4, cc, t5, t6⟩ := w2.sumF r6
          have t1 : f_X12_readExpression (0 : Int32) W = some T := t1
          have f2 : Fr [] [] [57] [] T (sA (sA (sA T 57 (8 * m + 4) (nI cc)) 57 (8 * m + 5) (nI cc)) 57 (8 * m + 6) (nI cc)) := (((Fr.refl T).sA rfl _ _).sA rfl _ _).sA rfl _ _
          refine ⟨S2, _, af, ?_, v4.trans (r2.mono rfl rfl rfl rfl), r3, ?_, FR.b w3 ((t4.mono rfl rfl rfl rfl : FRb W T).trans (f2.mono rfl rfl rfl rfl)), t2, t3⟩
          · rw [v1, r1]
            simp (disch := omega) only [k_let, Option.bind_some, ↓reduceIte, eq_self, true_or, or_true, n01_0, n01_1, kb_or, kb_0T, kb_0F, vn_0, vn_1, vn_k, nl_0, nl_1, nl_2, nl_3, nl_4, nl_5, nl_6, nl_7, nl_8, nl_9, nl_10, nl_11, nl_12, nl_13, nl_14, nl_15, nl_16, nl_20, nl_21, nl_22, nl_23, nl_24, nl_25, nl_26, nl_27, nl_28, nl_29, nl_30, nl_31, nl_32, nl_40, nl_41, nl_42, nl_43, nl_45, nl_47, nl_48, nl_50, nl_57, nl_59, nl_60, nl_61, nl_62, nl_63, nl_64, nl_91, nl_93, nl_94, nl_97, nl_98, nl_100, nl_110, nl_122, nl_130, nl_144, nl_160, nl_240, nl_241, nl_255, nl_256, nl_400, nl_800, nl_900, nl_999, nl_1000, nl_1001, nl_1024, nl_1103, nl_1928, nl_4321, nl_5560, nl_12345, nl_1000000, nl_1000003, nl_252645135, nl_858993459, nl_1431655765, nl_1000000000, nI_add, pk_mul, n_sub, n_neg, n_cl, leT, leF, ltT, ltF, eqT, eqF, kbT, s_II, s_In, s_IJ, s_IA, s_IL, s_IR, s_IC, s_JI, s_JJ, s_Jn, s_JA, s_JL, s_JR, s_JC, s_AI, s_AJ, s_AA, s_An, s_AL, s_AR, s_AC, s_LI, s_LJ, s_LA, s_LL, s_Ln, s_LR, s_LC]
          · rw [w1, t1, Option.bind_some]
            exact e_134bad (by omega) t6 t2
      · rw [if_neg c0] at v1
        rw [if_neg (show ¬ nI kdn = (0 : Int32) by rw [show (0 : Int32) = nI 0 from rfl, n_eq (by omega) (by omega)]; exact c0)] at w1
        rcases cl_tail (e0 := e) v2 v3 hm12 (by omega) (by omega) w2 with ⟨V3, a3, e3, q3, T3, c3, dt, z1, z2, z3, z4, z5, z6, ⟨z7, z8⟩, z9, y1, y2, y3, y4, y5, y6, y7, y8, y9, x1⟩ | ⟨V3, T3, af, z1, z2, z3, z4, z5, z6, z7⟩
        · left
          have hly := y1.lt
          have hc3 : c ≤ c3 := by rcases x1 with ⟨x1, -⟩ | ⟨x1, -⟩ <;> omega
          refine ⟨V3, a3, e3, q3, T3, c3, kdn, fun _ => none, dt, v1.trans z1, z2, z3, hm12, v4.trans z4, fun i hi => ?_, ⟨by omega, by omega, by omega⟩, hk3, z9, ⟨by omega, ?_, z5, e + 1, ?_, y1⟩, w1.trans y2, y3, w3.trans y4, fun p hp => ?_, fun i hi => ?_, ?_, c, c, c3, Nat.le_refl _, ?_, y7, y8, y9, Nat.le_refl _, hc3, fun z => absurd z c0, x1⟩
          · rw [z6 i (by omega) (by omega), v6 i hi]
          · rw [z6 _ (by omega) (by omega), v5]
          · rw [if_neg c0]
          · rw [y5 p hp, w4]
          · rw [y6 i (by omega), w7 i hi]
          · rw [y6 _ (by omega), w5]
          · rw [y6 _ (by omega), w6]
        · right
          exact ⟨V3, T3, af, v1.trans z1, v4.trans z2, z3, w1.trans z4, FR.b w3 z5, z6, z7⟩
    · right
      have hh : (if ckN t n a = 0 then iZ (-1) else nI (ckN t n a - 1)) = nI kdn := by rw [if_neg hk, hkd, Nat.add_sub_cancel]
      rw [hh, if_neg (show ¬ nI kdn = iZ (-1) by rw [nzeqF (by omega) (by omega) (by decide) (by decide)]; exact id), if_pos (show 12 ≤ m by omega)] at e0
      obtain ⟨T, b1, b2, b3, b4⟩ := bad (nI kdn)
      refine ⟨S, T, a, ?_, Fr.refl S, hS.1.2.2.1, e0.trans b1, b2, b3, b4⟩
      unfold f_X7_readClause
      rw [e_clauseKind hS.1, if_neg hk, hkd]
      simp (disch := omega) only [k_let, Option.bind_some, ↓reduceIte, eq_self, true_or, or_true, n01_0, n01_1, kb_or, kb_0T, kb_0F, vn_0, vn_1, vn_k, nl_0, nl_1, nl_2, nl_3, nl_4, nl_5, nl_6, nl_7, nl_8, nl_9, nl_10, nl_11, nl_12, nl_13, nl_14, nl_15, nl_16, nl_20, nl_21, nl_22, nl_23, nl_24, nl_25, nl_26, nl_27, nl_28, nl_29, nl_30, nl_31, nl_32, nl_40, nl_41, nl_42, nl_43, nl_45, nl_47, nl_48, nl_50, nl_57, nl_59, nl_60, nl_61, nl_62, nl_63, nl_64, nl_91, nl_93, nl_94, nl_97, nl_98, nl_100, nl_110, nl_122, nl_130, nl_144, nl_160, nl_240, nl_241, nl_255, nl_256, nl_400, nl_800, nl_900, nl_999, nl_1000, nl_1001, nl_1024, nl_1103, nl_1928, nl_4321, nl_5560, nl_12345, nl_1000000, nl_1000003, nl_252645135, nl_858993459, nl_1431655765, nl_1000000000, nI_add, pk_mul, n_sub, n_neg, n_cl, leT, leF, ltT, ltF, eqT, eqF, kbT, s_II, s_In, s_IJ, s_IA, s_IL, s_IR, s_IC, s_JI, s_JJ, s_Jn, s_JA, s_JL, s_JR, s_JC, s_AI, s_AJ, s_AA, s_An, s_AL, s_AR, s_AC, s_LI, s_LJ, s_LA, s_LL, s_Ln, s_LR, s_LC, zleT, zleF, zltT, zltF, zeqT, zeqF, nzleT, nzleF, nzltT, nzltF, nzeqT, nzeqF, znleT, znleF, znltT, znltF, zneqT, zneqF, z_add, z_sub, z_mul, z_neg, z_an, z_na, z_sn, z_ns, z_mn, z_nm, h12, f_X7_readClause_19]
