/-! part dh: a clause of the class begins and ends -/
abbrev FK (S T : St) : Prop := Fr [10, 11, 12, 13, 14, 15, 16] [] [24] [] S T
theorem c_head {t : Nat → Nat} {n a e q m kdn : Nat} {S : St} (hS : Cs t n a e q S) (h12 : gI S 12 = nI m) (hm : m < 12) (hk : ckN t n a = kdn + 1) (hk3 : kdn < 3) (he : e ≤ a) : ∃ V, f_X7_readClause S = (if kdn = 0 then (f_X7_readSum (f_X7_ib 12) (nI 0) V).bind fun q49 => if q49.1 = 0 then some ((0 : Int32), q49.2) else f_X7_readClause_57 (nI (2 * e)) q49.2 else f_X7_readClause_57 (nI (2 * e)) V) ∧ Cs t n (tnx t n a) (e + 1) q V ∧ gI V 12 = nI (m + 1) ∧ FK S V ∧ gA V 24 (2 * e) = nI (kdn + 1) ∧ ∀ i, i < 2 * e → gA V 24 i = gA S 24 i := by
  have hn := hS.1.1.1
  have ha : a < n := by
    refine kd_lt (t := t) (fun z => ?_)
    have : ∀ i, isW t n a i = false := fun i => by
      cases z2 : isW t n a i with
      | false => rfl
      | true => have := isW_kd z2; omega
    unfold ckN at hk
    simp [this] at hk
  have f1 : Fr [12] [] [] [] S (sI S 12 (nI (m + 1))) := (Fr.refl S).sI rfl _
  have c1 : Ctk t n a (sI S 12 (nI (m + 1))) := hS.1.fr f1 rfl rfl rfl rfl rfl rfl
  obtain ⟨V, g1, g2, g3, g4, g5⟩ := e_put (S := sI S 12 (nI (m + 1))) (e := e) ((f1.I rfl).trans hS.2.1) (by omega) (nI (kdn + 1)) (nI 0)
  rw [show min (e + 1) 400 = e + 1 by omega] at g3
  have c2 : Cs t n a (e + 1) q V := ⟨c1.fr g2 rfl rfl rfl rfl rfl rfl, g3, (g2.I rfl).trans ((f1.I rfl).trans hS.2.2.1), by omega, hS.2.2.2.2⟩
  obtain ⟨T, d1, d2, d3⟩ := c2.step
  obtain ⟨w1, w2⟩ := g5 (by omega)
  refine ⟨T, ?_, d3, (d2.I rfl).trans ((g2.I rfl).trans (s_II _ _ _)), ((f1.mono rfl rfl rfl rfl).trans (g2.mono rfl rfl rfl rfl)).trans (d2.mono rfl rfl rfl rfl), by rw [d2.A rfl]; exact w1, fun i hi => by rw [d2.A rfl, g4 i hi]; rfl⟩
  unfold f_X7_readClause
  rw [e_clauseKind hS.1, hk, if_neg (show ¬ kdn + 1 = 0 by omega)]
  by_cases c0 : kdn = 0
  · rw [if_pos c0]
    simp (disch := omega) only [k_let, Option.bind_some, ↓reduceIte, eq_self, true_or, or_true, n01_0, n01_1, kb_or, kb_0T, kb_0F, vn_0, vn_1, vn_k, nl_0, nl_1, nl_2, nl_3, nl_4, nl_5, nl_6, nl_7, nl_8, nl_9, nl_10, nl_11, nl_12, nl_13, nl_14, nl_15, nl_16, nl_20, nl_21, nl_22, nl_23, nl_24, nl_25, nl_26, nl_27, nl_28, nl_29, nl_30, nl_31, nl_32, nl_40, nl_41, nl_42, nl_43, nl_45, nl_47, nl_48, nl_50, nl_57, nl_59, nl_60, nl_61, nl_62, nl_63, nl_64, nl_91, nl_93, nl_94, nl_97, nl_98, nl_100, nl_110, nl_122, nl_130, nl_144, nl_160, nl_240, nl_241, nl_255, nl_256, nl_400, nl_800, nl_900, nl_999, nl_1000, nl_1001, nl_1024, nl_1103, nl_1928, nl_4321, nl_5560, nl_12345, nl_1000000, nl_1000003, nl_252645135, nl_858993459, nl_1431655765, nl_1000000000, nI_add, pk_mul, n_sub, n_neg, n_cl, leT, leF, ltT, ltF, eqT, eqF, kbT, s_II, s_In, s_IJ, s_IA, s_IL, s_IR, s_IC, s_JI, s_JJ, s_Jn, s_JA, s_JL, s_JR, s_JC, s_AI, s_AJ, s_AA, s_An, s_AL, s_AR, s_AC, s_LI, s_LJ, s_LA, s_LL, s_Ln, s_LR, s_LC, zleT, zleF, zltT, zltF, zeqT, zeqF, nzleT, nzleF, nzltT, nzltF, nzeqT, nzeqF, znleT, znleF, znltT, znltF, zneqT, zneqF, z_add, z_sub, z_mul, z_neg, z_an, z_na, z_sn, z_ns, z_mn, z_nm, h12, g1, d1]
  · rw [if_neg c0]
    simp (disch := omega) only [k_let, Option.bind_some, ↓reduceIte, eq_self, true_or, or_true, n01_0, n01_1, kb_or, kb_0T, kb_0F, vn_0, vn_1, vn_k, nl_0, nl_1, nl_2, nl_3, nl_4, nl_5, nl_6, nl_7, nl_8, nl_9, nl_10, nl_11, nl_12, nl_13, nl_14, nl_15, nl_16, nl_20, nl_21, nl_22, nl_23, nl_24, nl_25, nl_26, nl_27, nl_28, nl_29, nl_30, nl_31, nl_32, nl_40, nl_41, nl_42, nl_43, nl_45, nl_47, nl_48, nl_50, nl_57, nl_59, nl_60, nl_61, nl_62, nl_63, nl_64, nl_91, nl_93, nl_94, nl_97, nl_98, nl_100, nl_110, nl_122, nl_130, nl_144, nl_160, nl_240, nl_241, nl_255, nl_256, nl_400, nl_800, nl_900, nl_999, nl_1000, nl_1001, nl_1024, nl_1103, nl_1928, nl_4321, nl_5560, nl_12345, nl_1000000, nl_1000003, nl_252645135, nl_858993459, nl_1431655765, nl_1000000000, nI_add, pk_mul, n_sub, n_neg, n_cl, leT, leF, ltT, ltF, eqT, eqF, kbT, s_II, s_In, s_IJ, s_IA, s_IL, s_IR, s_IC, s_JI, s_JJ, s_Jn, s_JA, s_JL, s_JR, s_JC, s_AI, s_AJ, s_AA, s_An, s_AL, s_AR, s_AC, s_LI, s_LJ, s_LA, s_LL, s_Ln, s_LR, s_LC, zleT, zleF, zltT, zltF, zeqT, zeqF, nzleT, nzleF, nzltT, nzltF, nzeqT, nzeqF, znleT, znleF, znltT, znltF, zneqT, zneqF, z_add, z_sub, z_mul, z_neg, z_an, z_na, z_sn, z_ns, z_mn, z_nm, h12, g1, d1]
