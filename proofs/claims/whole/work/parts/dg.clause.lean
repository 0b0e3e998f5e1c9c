/-! part dg: a clause of the reference, whole -/
theorem m_head {t : Nat → Nat} {n a c q m kdn : Nat} {U : St} (h : Mc t n a c q m U) (hm : m < 12) (hk : ckN t n a = kdn + 1) (hk3 : kdn < 3) : ∃ V, f_X12_readClause U = (if nI kdn = (0 : Int32) then (f_X12_readExpression (0 : Int32) V).bind fun q131 => f_X12_readClause_134 (nI (8 * m)) q131 else f_X12_readClause_134 (nI (8 * m)) V) ∧ Mc t n (tnx t n a) c q (m + 1) V ∧ FR U V ∧ Fx V = Fx U ∧ gA V 57 (8 * m) = nI kdn ∧ gA V 57 (8 * m + 3) = nI c ∧ ∀ i, i < 8 * m → gA V 57 i = gA U 57 i := by
  have F1 : 1000 < FU := FU_ge (by decide)
  obtain ⟨h1, h2, h3, h4, h5, h6, h7, h8⟩ := h
  have hkd : kd t n a ≠ 0 := by
    have : ∃ i, isW t n a i = true := by
      refine Classical.byContradiction fun z => ?_
      have : ∀ i, isW t n a i = false := fun i => by
        cases z2 : isW t n a i with
        | false => rfl
        | true => exact absurd ⟨i, z2⟩ z
      unfold ckN at hk
      simp [this] at hk
    obtain ⟨i, hi⟩ := this
    rw [isW_kd hi]
    decide
  have hx := tnx_lt hkd
  have e0 := l_head h1 h3 (by omega) h8 3 FU 0 (iZ (-1)) rfl (by omega)
  rw [hd_ck, hk, if_neg (show ¬ kdn + 1 = 0 by omega)] at e0
  rw [show kdn + 1 - 1 = kdn by omega] at e0
  obtain ⟨T1, e1, e2, e3⟩ := e_mustT h1 h2
  obtain ⟨T2, g1, g2, g3⟩ := l_z8 (x1 := nI kdn) (b := 8 * m) (by omega) 8 FU 0 T1 rfl (by omega)
  have f02 : Fr [37, 38, 39] [0] [57] [] U T2 := (e2.mono rfl rfl rfl rfl).trans (g2.mono rfl rfl rfl rfl)
  have f2 : Fr [42] [] [57] [] T2 (sA (sI (sA T2 57 (8 * m) (nI kdn)) 42 (nI (m + 1))) 57 (8 * m + 3) (nI c)) := (((Fr.refl T2).sA rfl _ _).sI rfl _).sA rfl _ _
  have t42 : gI T2 42 = nI m := (f02.I rfl).trans h3
  have t43 : gI T2 43 = nI c := (f02.I rfl).trans h4
  refine ⟨sA (sI (sA T2 57 (8 * m) (nI kdn)) 42 (nI (m + 1))) 57 (8 * m + 3) (nI c), ?_, ⟨(e3.fr g2 rfl rfl rfl rfl rfl rfl).fr f2 rfl rfl rfl rfl rfl rfl, (f2.I rfl).trans ((f02.I rfl).trans h2), ?_, (f2.I rfl).trans t43, (f2.I rfl).trans ((f02.I rfl).trans h5), by omega, fun i hi => by rw [f2.L rfl, f02.L rfl]; exact h7 i hi, fun i hi => by rw [f2.L rfl, f02.L rfl]; exact h8 i hi⟩, (f02.mono rfl rfl rfl rfl).trans (f2.mono rfl rfl rfl rfl), (Fx.fr f2 rfl rfl).trans (Fx.fr f02 rfl rfl), ?_, ?_, fun i hi => ?_⟩
  · unfold f_X12_readClause
    have e0 : f_X12_readClause_4 FU (-1 : Int32) (0 : Int32) U = _ := e0
    rw [e0, if_neg (show ¬ nI kdn = iZ (-1) by rw [nzeqF (by omega) (by omega) (by decide) (by decide)]; exact id), if_neg (show ¬ 12 ≤ m by omega)]
    unfold f_X12_readClause_54
    rw [e1]
    simp only [Option.bind_some]
    have t41 : gI T1 41 = nI 0 := (e2.I rfl).trans h2
    have t142 : gI T1 42 = nI m := (e2.I rfl).trans h3
    rw [t41, if_pos (show nI 0 = (0 : Int32) from rfl), t142, show (8 : Int32) * nI m = nI (8 * m) from pk_mul 8 m]
    have g1 : f_X12_readClause_75 FU (nI kdn) (nI (8 * m)) (0 : Int32) T1 = _ := g1
    rw [g1]
    unfold tl75
    simp (disch := omega) only [k_let, Option.bind_some, ↓reduceIte, eq_self, true_or, or_true, n01_0, n01_1, kb_or, kb_0T, kb_0F, vn_0, vn_1, vn_k, s_II, s_In, s_IJ, s_IA, s_IL, s_IR, s_IC, s_JI, s_JJ, s_Jn, s_JA, s_JL, s_JR, s_JC, s_AI, s_AJ, s_AA, s_An, s_AL, s_AR, s_AC, s_LI, s_LJ, s_LA, s_LL, s_Ln, s_LR, s_LC, t42, t43]
    rw [show nI m + (1 : Int32) = nI (m + 1) from nI_add m 1]
  · simp (disch := omega) only [s_II, s_In, s_IJ, s_IA, s_IL, s_IR, s_IC, s_JI, s_JJ, s_Jn, s_JA, s_JL, s_JR, s_JC, s_AI, s_AJ, s_AA, s_An, s_AL, s_AR, s_AC, s_LI, s_LJ, s_LA, s_LL, s_Ln, s_LR, s_LC]
  · simp (disch := omega) only [s_II, s_In, s_IJ, s_IA, s_IL, s_IR, s_IC, s_JI, s_JJ, s_Jn, s_JA, s_JL, s_JR, s_JC, s_AI, s_AJ, s_AA, s_An, s_AL, s_AR, s_AC, s_LI, s_LJ, s_LA, s_LL, s_Ln, s_LR, s_LC, u_a]
    rw [if_neg (by omega), if_pos trivial]
  · simp (disch := omega) only [s_II, s_In, s_IJ, s_IA, s_IL, s_IR, s_IC, s_JI, s_JJ, s_Jn, s_JA, s_JL, s_JR, s_JC, s_AI, s_AJ, s_AA, s_An, s_AL, s_AR, s_AC, s_LI, s_LJ, s_LA, s_LL, s_Ln, s_LR, s_LC, u_a]
    rw [if_pos trivial]
  · simp (disch := omega) only [s_II, s_In, s_IJ, s_IA, s_IL, s_IR, s_IC, s_JI, s_JJ, s_Jn, s_JA, s_JL, s_JR, s_JC, s_AI, s_AJ, s_AA, s_An, s_AL, s_AR, s_AC, s_LI, s_LJ, s_LA, s_LL, s_Ln, s_LR, s_LC, u_a]
    rw [if_neg (by omega), if_neg (by omega), g3 i, if_neg (by omega), e2.A rfl]
