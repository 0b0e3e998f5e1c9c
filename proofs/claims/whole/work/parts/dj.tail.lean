/-! part dj: the end of a clause, both sides -/
def TlOk (t : Nat → Nat) (n a e q c e0 m : Nat) (S U : St) : Prop := ∃ V a1 e1 q1 T c1 dt, f_X7_readClause_57 (nI (2 * e0)) S = some (nI 1, V) ∧ Cs t n a1 e1 q1 V ∧ gI V 12 = nI (m + 1) ∧ FK S V ∧ gA V 24 (2 * e0 + 1) = nI (2 * e1) ∧ (∀ i, i < 2 * e → i ≠ 2 * e0 + 1 → gA V 24 i = gA S 24 i) ∧ (e1 + a ≤ e + a1 + 1 ∧ a ≤ a1) ∧ T01 dt ∧ Cm (Fc (gA V 24)) e e1 dt 50 ∧ f_X12_readClause_134 (nI (8 * m)) U = some T ∧ Mc t n a1 c1 q1 (m + 1) T ∧ FR U T ∧ (∀ p, p < c → Fx T p = Fx U p) ∧ (∀ i, i < 8 * m + 4 → gA T 57 i = gA U 57 i) ∧ gA T 57 (8 * m + 4) = nI c ∧ gA T 57 (8 * m + 5) = nI c ∧ gA T 57 (8 * m + 6) = nI c1 ∧ ((c < c1 ∧ Cm (Fx T) c c1 dt 50) ∨ (c = c1 ∧ dt = fun _ => some 1))
def TlNo (e0 m : Nat) (S U : St) : Prop := ∃ V T af, f_X7_readClause_57 (nI (2 * e0)) S = some (nI 0, V) ∧ FK S V ∧ gI V 15 = nI af ∧ f_X12_readClause_134 (nI (8 * m)) U = some T ∧ FRb U T ∧ gI T 41 = nI 1 ∧ gI T 40 = nI af
theorem cl_tail {t : Nat → Nat} {n a e q c e0 m : Nat} {S U : St} (hS : Cs t n a e q S) (h12 : gI S 12 = nI (m + 1)) (hm : m < 12) (he0 : e0 < e) (he : e + 1 ≤ a) (hU : Mc t n a c q (m + 1) U) : TlOk t n a e q c e0 m S U ∨ TlNo e0 m S U := by
  have hn := hS.1.1.1
  have han := hS.1.2.1
  by_cases hw : isW t n a 13 = true
  · have hx := tnx_lt (t := t) (n := n) (a := a) (by rw [isW_kd hw]; decide)
    obtain ⟨S1, g1, g2, g3⟩ := hS.step
    obtain ⟨U1, m1, f1, w1, x1⟩ := e_134if hU (b := 8 * m) (by omega) hw
    have hc57 : f_X7_readClause_57 (nI (2 * e0)) S = ((f_X7_readTest (f_X7_ib 12) (nI 0) S1).bind fun q72 => if q72.1 = 0 then some ((0 : Int32), q72.2) else f_X7_readClause_87 (nI (2 * e0)) q72.2) := by
      unfold f_X7_readClause_57
      rw [e_sees hS.1 (by decide), hw]
      simp (disch := omega) only [k_let, Option.bind_some, ↓reduceIte, eq_self, true_or, or_true, n01_0, n01_1, kb_or, kb_0T, kb_0F, vn_0, vn_1, vn_k, nl_0, nl_1, nl_2, nl_3, nl_4, nl_5, nl_6, nl_7, nl_8, nl_9, nl_10, nl_11, nl_12, nl_13, nl_14, nl_15, nl_16, nl_20, nl_21, nl_22, nl_23, nl_24, nl_25, nl_26, nl_27, nl_28, nl_29, nl_30, nl_31, nl_32, nl_40, nl_41, nl_42, nl_43, nl_45, nl_47, nl_48, nl_50, nl_57, nl_59, nl_60, nl_61, nl_62, nl_63, nl_64, nl_91, nl_93, nl_94, nl_97, nl_98, nl_100, nl_110, nl_122, nl_130, nl_144, nl_160, nl_240, nl_241, nl_255, nl_256, nl_400, nl_800, nl_900, nl_999, nl_1000, nl_1001, nl_1024, nl_1103, nl_1928, nl_4321, nl_5560, nl_12345, nl_1000000, nl_1000003, nl_252645135, nl_858993459, nl_1431655765, nl_1000000000, nI_add, pk_mul, n_sub, n_neg, n_cl, leT, leF, ltT, ltF, eqT, eqF, kbT, s_II, s_In, s_IJ, s_IA, s_IL, s_IR, s_IC, s_JI, s_JJ, s_Jn, s_JA, s_JL, s_JR, s_JC, s_AI, s_AJ, s_AA, s_An, s_AL, s_AR, s_AC, s_LI, s_LJ, s_LA, s_LL, s_Ln, s_LR, s_LC, kB_t, g1]
    rcases c_Test (tb := 1) (c_ib 12 0 (by omega) (by omega)) g3 (by omega) with ⟨S2, a2, e2, q2, δ, r1, ⟨b1, b2, b3, b4, b5, b6, b7, b8⟩, ⟨l4, l5⟩, t01⟩ | ⟨S2, af, e2, r1, r2, r3, r4, r5, r6⟩
    · left
      obtain ⟨V, v1, v2, v3, v4, v5, v6⟩ := c_87 (e0 := e0) b1 (((b2.I rfl).trans (g2.I rfl)).trans h12) (by omega)
      obtain ⟨T, c1, t1, t2, t3, t4, t5⟩ := m1.test b8 l4 l5
      have hlt := t5.lt
      have hq2 := b1.2.2.2.2
      have f2 : Fr [] [] [57] [] T (sA T 57 (8 * m + 6) (nI c1)) := (Fr.refl T).sA rfl _ _
      have hFx : Fx (sA T 57 (8 * m + 6) (nI c1)) = Fx T := Fx.fr f2 rfl rfl
      have h57 : gA T 57 = upd (upd (gA U 57) (8 * m + 4) (nI c)) (8 * m + 5) (nI c) := (t3.A rfl).trans w1
      refine ⟨V, a2, e2, q2, sA T 57 (8 * m + 6) (nI c1), c1, δ, ?_, v2, v3, ((g2.mono rfl rfl rfl rfl : FK S S1).trans (b2.mono rfl rfl rfl rfl)).trans (v4.mono rfl rfl rfl rfl), v5, fun i hi hne => ?_, ⟨by omega, by omega⟩, t01 rfl, ?_, ?_, t2.s57 _ _, ((f1.mono rfl rfl rfl rfl : FR U U1).trans (t3.mono rfl rfl rfl rfl)).trans (f2.mono rfl rfl rfl rfl), fun p hp => ?_, fun i hi => ?_, ?_, ?_, ?_, Or.inl ⟨hlt, ?_⟩⟩
      · rw [hc57, r1]
        simp (disch := omega) only [k_let, Option.bind_some, ↓reduceIte, eq_self, true_or, or_true, n01_0, n01_1, kb_or, kb_0T, kb_0F, vn_0, vn_1, vn_k, nl_0, nl_1, nl_2, nl_3, nl_4, nl_5, nl_6, nl_7, nl_8, nl_9, nl_10, nl_11, nl_12, nl_13, nl_14, nl_15, nl_16, nl_20, nl_21, nl_22, nl_23, nl_24, nl_25, nl_26, nl_27, nl_28, nl_29, nl_30, nl_31, nl_32, nl_40, nl_41, nl_42, nl_43, nl_45, nl_47, nl_48, nl_50, nl_57, nl_59, nl_60, nl_61, nl_62, nl_63, nl_64, nl_91, nl_93, nl_94, nl_97, nl_98, nl_100, nl_110, nl_122, nl_130, nl_144, nl_160, nl_240, nl_241, nl_255, nl_256, nl_400, nl_800, nl_900, nl_999, nl_1000, nl_1001, nl_1024, nl_1103, nl_1928, nl_4321, nl_5560, nl_12345, nl_1000000, nl_1000003, nl_252645135, nl_858993459, nl_1431655765, nl_1000000000, nI_add, pk_mul, n_sub, n_neg, n_cl, leT, leF, ltT, ltF, eqT, eqF, kbT, s_II, s_In, s_IJ, s_IA, s_IL, s_IR, s_IC, s_JI, s_JJ, s_Jn, s_JA, s_JL, s_JR, s_JC, s_AI, s_AJ, s_AA, s_An, s_AL, s_AR, s_AC, s_LI, s_LJ, s_LA, s_LL, s_Ln, s_LR, s_LC]
        exact v1
      · rw [v6 i hne, b3 i hi, g2.A rfl]
      · refine (b7.congr (fun p h1 h2 => ?_)).mono (by omega)
        unfold Fc
        rw [v6 _ (by omega), v6 _ (by omega)]
      · rw [x1, t1, Option.bind_some]
        exact e_184 (by omega) t2.2.2.2.1
      · rw [hFx, t4 p hp, Fx.fr f1 rfl rfl]
      · rw [s_AA, u_a, if_neg (by omega), h57, u_a, if_neg (by omega), u_a, if_neg (by omega)]
      · rw [s_AA, u_a, if_neg (by omega), h57, u_a, if_neg (by omega), u_a, if_pos rfl]
      · rw [s_AA, u_a, if_neg (by omega), h57, u_a, if_pos rfl]
      · rw [s_AA, u_a, if_pos rfl]
      · rw [hFx]
        exact t5.mono (by omega)
    · right
      obtain ⟨T, t1, t2, t3, t4, cc, t5, t6⟩ := m1.testF r6
      have f2 : Fr [] [] [57] [] T (sA T 57 (8 * m + 6) (nI cc)) := (Fr.refl T).sA rfl _ _
      refine ⟨S2, sA T 57 (8 * m + 6) (nI cc), af, ?_, (g2.mono rfl rfl rfl rfl : FK S S1).trans (r2.mono rfl rfl rfl rfl), r3, ?_, ((f1.mono rfl rfl rfl rfl : FRb U U1).trans (t4.mono rfl rfl rfl rfl)).trans (f2.mono rfl rfl rfl rfl), t2, t3⟩
      · rw [hc57, r1]
        simp (disch := omega) only [k_let, Option.bind_some, ↓reduceIte, eq_self, true_or, or_true, n01_0, n01_1, kb_or, kb_0T, kb_0F, vn_0, vn_1, vn_k, nl_0, nl_1, nl_2, nl_3, nl_4, nl_5, nl_6, nl_7, nl_8, nl_9, nl_10, nl_11, nl_12, nl_13, nl_14, nl_15, nl_16, nl_20, nl_21, nl_22, nl_23, nl_24, nl_25, nl_26, nl_27, nl_28, nl_29, nl_30, nl_31, nl_32, nl_40, nl_41, nl_42, nl_43, nl_45, nl_47, nl_48, nl_50, nl_57, nl_59, nl_60, nl_61, nl_62, nl_63, nl_64, nl_91, nl_93, nl_94, nl_97, nl_98, nl_100, nl_110, nl_122, nl_130, nl_144, nl_160, nl_240, nl_241, nl_255, nl_256, nl_400, nl_800, nl_900, nl_999, nl_1000, nl_1001, nl_1024, nl_1103, nl_1928, nl_4321, nl_5560, nl_12345, nl_1000000, nl_1000003, nl_252645135, nl_858993459, nl_1431655765, nl_1000000000, nI_add, pk_mul, n_sub, n_neg, n_cl, leT, leF, ltT, ltF, eqT, eqF, kbT, s_II, s_In, s_IJ, s_IA, s_IL, s_IR, s_IC, s_JI, s_JJ, s_Jn, s_JA, s_JL, s_JR, s_JC, s_AI, s_AJ, s_AA, s_An, s_AL, s_AR, s_AC, s_LI, s_LJ, s_LA, s_LL, s_Ln, s_LR, s_LC]
      · rw [x1, t1, Option.bind_some]
        exact e_184 (by omega) t6
  · have hw : isW t n a 13 = false := Bool.eq_false_iff.mpr hw
    obtain ⟨V, r1, r2, r3, r4, r5, r6, r7⟩ := c_57no hS h12 he0 (by omega) hw
    left
    refine ⟨V, a, e + 1, q, _, c, fun _ => some 1, r1, r2, r3, r4.mono rfl rfl rfl rfl, r5, r7, ⟨by omega, by omega⟩, fun E _ v hv => ?_, ?_, e_134no hU (b := 8 * m) (by omega) hw, ((hU.s57 _ _).s57 _ _).s57 _ _, (((Fr.refl U).sA rfl _ _).sA rfl _ _).sA rfl _ _, fun p _ => rfl, fun i hi => ?_, ?_, ?_, ?_, Or.inr ⟨rfl, rfl⟩⟩
    · cases hv
      exact Or.inr rfl
    · have e2 : dC (nI 4) (nI 1) = (0, (1 : Int)) := by decide +kernel
      exact (Cm.num (r6.trans e2) (by decide) (by decide)).mono (by decide)
    · rw [s_AA, u_a, if_neg (by omega), s_AA, u_a, if_neg (by omega), s_AA, u_a, if_neg (by omega)]
    · rw [s_AA, u_a, if_neg (by omega), s_AA, u_a, if_neg (by omega), s_AA, u_a, if_pos rfl]
    · rw [s_AA, u_a, if_neg (by omega), s_AA, u_a, if_pos rfl]
    · rw [s_AA, u_a, if_pos rfl]
