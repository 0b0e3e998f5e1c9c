/-! part 9u: play -/
theorem l_payAll {r : Nat → Int32} {S : St} {c : Nat → Nat} (hv : Ic r S) (hc : ∀ e, e < nD r → c e ≤ dHa r e) (h38 : ∀ e, e < nD r → gA S 38 e = nI (c e)) : ∀ (k f d : Nat) (U : St), d + k = nD r → k < f → Fr [] [] [6] [] S U → (∀ e, e < nD r → gA U 6 e = nI (if e < d then dHa r e - c e else dHa r e)) →
    ∃ W, f_X2_payAll_2 f (nI d) U = (f_X1_dropPlayed W).bind (fun q => some q) ∧ Fr [] [] [6] [] S W ∧ ∀ e, e < nD r → gA W 6 e = nI (dHa r e - c e) := by
  have h16 := hv.1.n16
  intro k
  induction k with
  | zero =>
    intro f d U hd hf hF hR
    obtain ⟨f, rfl⟩ : ∃ g, f = g + 1 := ⟨f - 1, by omega⟩
    have : d = nD r := by omega
    subst this
    have k1 : gI U 1 = nI (nD r) := (hF.I (k := 1) rfl).trans hv.I1
    refine ⟨U, ?_, hF, fun e he => by rw [hR e he, if_pos he]⟩
    rw [f_X2_payAll_2, f_X2_payAll_43]
    simp (disch := omega) only [k_let, Option.bind_some, ↓reduceIte, eq_self, true_or, or_true, n01_0, n01_1, kb_or, kb_0T, kb_0F, vn_0, vn_1, vn_k, nl_0, nl_1, nl_2, nl_3, nl_4, nl_5, nl_6, nl_7, nl_8, nl_9, nl_10, nl_11, nl_12, nl_13, nl_14, nl_15, nl_16, nl_20, nl_21, nl_22, nl_23, nl_24, nl_25, nl_26, nl_27, nl_28, nl_29, nl_30, nl_31, nl_32, nl_40, nl_41, nl_42, nl_43, nl_45, nl_47, nl_48, nl_50, nl_57, nl_59, nl_60, nl_61, nl_62, nl_63, nl_64, nl_91, nl_93, nl_94, nl_97, nl_98, nl_100, nl_110, nl_122, nl_130, nl_144, nl_160, nl_240, nl_241, nl_255, nl_256, nl_400, nl_800, nl_900, nl_999, nl_1000, nl_1001, nl_1024, nl_1103, nl_1928, nl_4321, nl_5560, nl_12345, nl_1000000, nl_1000003, nl_252645135, nl_858993459, nl_1431655765, nl_1000000000, nI_add, pk_mul, n_sub, n_neg, n_cl, leT, leF, ltT, ltF, eqT, eqF, kbT, s_II, s_In, s_IJ, s_IA, s_IL, s_IR, s_IC, s_JI, s_JJ, s_Jn, s_JA, s_JL, s_JR, s_JC, s_AI, s_AJ, s_AA, s_An, s_AL, s_AR, s_AC, s_LI, s_LJ, s_LA, s_LL, s_Ln, s_LR, s_LC, k1]
  | succ k ih =>
    intro f d U hd hf hF hR
    obtain ⟨f, rfl⟩ : ∃ g, f = g + 1 := ⟨f - 1, by omega⟩
    have hdn : d < nD r := by omega
    have k1 : gI U 1 = nI (nD r) := (hF.I (k := 1) rfl).trans hv.I1
    have k38 : gA U 38 d = nI (c d) := by rw [hF.A (k := 38) rfl]; exact h38 d hdn
    have k6 := hR d hdn
    rw [if_neg (Nat.lt_irrefl d)] at k6
    have := hc d hdn
    obtain ⟨W, w1, w2, w3⟩ := ih f (d + 1) (sA U 6 d (nI (dHa r d - c d))) (by omega) (by omega) (hF.sA rfl _ _) (fun e he => by
      rw [s_AA, u_a]
      by_cases q : e = d
      · rw [if_pos q, q, if_pos (Nat.lt_succ_self d)]
      · rw [if_neg q, hR e he]
        by_cases q2 : e < d
        · rw [if_pos q2, if_pos (by omega)]
        · rw [if_neg q2, if_neg (by omega)])
    refine ⟨W, ?_, w2, w3⟩
    rw [← w1, f_X2_payAll_2]
    simp (disch := omega) only [k_let, Option.bind_some, ↓reduceIte, eq_self, true_or, or_true, n01_0, n01_1, kb_or, kb_0T, kb_0F, vn_0, vn_1, vn_k, nl_0, nl_1, nl_2, nl_3, nl_4, nl_5, nl_6, nl_7, nl_8, nl_9, nl_10, nl_11, nl_12, nl_13, nl_14, nl_15, nl_16, nl_20, nl_21, nl_22, nl_23, nl_24, nl_25, nl_26, nl_27, nl_28, nl_29, nl_30, nl_31, nl_32, nl_40, nl_41, nl_42, nl_43, nl_45, nl_47, nl_48, nl_50, nl_57, nl_59, nl_60, nl_61, nl_62, nl_63, nl_64, nl_91, nl_93, nl_94, nl_97, nl_98, nl_100, nl_110, nl_122, nl_130, nl_144, nl_160, nl_240, nl_241, nl_255, nl_256, nl_400, nl_800, nl_900, nl_999, nl_1000, nl_1001, nl_1024, nl_1103, nl_1928, nl_4321, nl_5560, nl_12345, nl_1000000, nl_1000003, nl_252645135, nl_858993459, nl_1431655765, nl_1000000000, nI_add, pk_mul, n_sub, n_neg, n_cl, leT, leF, ltT, ltF, eqT, eqF, kbT, s_II, s_In, s_IJ, s_IA, s_IL, s_IR, s_IC, s_JI, s_JJ, s_Jn, s_JA, s_JL, s_JR, s_JC, s_AI, s_AJ, s_AA, s_An, s_AL, s_AR, s_AC, s_LI, s_LJ, s_LA, s_LL, s_Ln, s_LR, s_LC, k1, k38, k6]
theorem l_play34 {r : Nat → Int32} {S : St} {c : Nat → Nat} (w : Wf r) (hc : ∀ e, e < nD r → c e ≤ dHa r e) (h75 : ∀ e, e < nD r → gA S 75 e = nI (c e)) : ∀ (k f d : Nat) (U : St), d + k = nD r → k < f → Md r S U (fun e => if e < d then dHa r e - c e else dHa r e) →
    ∃ W, f_X12_play_34 f (nI d) U = (f_X12_sweep W).bind (fun q => (f_X12_tell (gI q 51) q).bind fun q => some (q.1, q.2)) ∧ Md r S W (fun e => dHa r e - c e) := by
  have h16 := w.n16
  intro k
  induction k with
  | zero =>
    intro f d U hd hf hM
    obtain ⟨f, rfl⟩ : ∃ g, f = g + 1 := ⟨f - 1, by omega⟩
    have : d = nD r := by omega
    subst this
    have pn : f_X12_debts U = some (nI (nD r), U) := by rw [e_debts, hM.2.2 1 (fun e _ => by omega), w.r1]
    refine ⟨U, ?_, hM.1, fun e he => (hM.2.1 e he).trans (congrArg nI (if_pos he)), hM.2.2⟩
    rw [f_X12_play_34]
    simp (disch := omega) only [k_let, Option.bind_some, ↓reduceIte, eq_self, true_or, or_true, n01_0, n01_1, kb_or, kb_0T, kb_0F, vn_0, vn_1, vn_k, leT, leF, ltT, ltF, eqT, eqF, kbT, ↓b_of pn]
  | succ k ih =>
    intro f d U hd hf hM
    obtain ⟨f, rfl⟩ : ∃ g, f = g + 1 := ⟨f - 1, by omega⟩
    have hdn : d < nD r := by omega
    have pn : f_X12_debts U = some (nI (nD r), U) := by rw [e_debts, hM.2.2 1 (fun e _ => by omega), w.r1]
    have k75 : gA U 75 d = nI (c d) := by rw [hM.1.A (k := 75) rfl]; exact h75 d hdn
    have k53 : gA U 53 (14 + 5 * d + 3) = nI (dHa r d) := (hM.2.1 d hdn).trans (congrArg nI (if_neg (Nat.lt_irrefl d)))
    have cd := hc d hdn
    have M2 := hM.set (g := fun e => if e < d + 1 then dHa r e - c e else dHa r e) hdn (fun e he q => by
      by_cases q2 : e < d
      · rw [if_pos q2, if_pos (by omega)]
      · rw [if_neg q2, if_neg (by omega)])
    rw [if_pos (Nat.lt_succ_self d)] at M2
    obtain ⟨W, w1, w2⟩ := ih f (d + 1) _ (by omega) (by omega) M2
    refine ⟨W, ?_, w2⟩
    rw [← w1, f_X12_play_34]
    simp (disch := omega) only [k_let, Option.bind_some, ↓reduceIte, eq_self, true_or, or_true, n01_0, n01_1, kb_or, kb_0T, kb_0F, vn_0, vn_1, vn_k, nl_0, nl_1, nl_2, nl_3, nl_4, nl_5, nl_6, nl_7, nl_8, nl_9, nl_10, nl_11, nl_12, nl_13, nl_14, nl_15, nl_16, nl_20, nl_21, nl_22, nl_23, nl_24, nl_25, nl_26, nl_27, nl_28, nl_29, nl_30, nl_31, nl_32, nl_40, nl_41, nl_42, nl_43, nl_45, nl_47, nl_48, nl_50, nl_57, nl_59, nl_60, nl_61, nl_62, nl_63, nl_64, nl_91, nl_93, nl_94, nl_97, nl_98, nl_100, nl_110, nl_122, nl_130, nl_144, nl_160, nl_240, nl_241, nl_255, nl_256, nl_400, nl_800, nl_900, nl_999, nl_1000, nl_1001, nl_1024, nl_1103, nl_1928, nl_4321, nl_5560, nl_12345, nl_1000000, nl_1000003, nl_252645135, nl_858993459, nl_1431655765, nl_1000000000, nI_add, pk_mul, n_sub, n_neg, n_cl, leT, leF, ltT, ltF, eqT, eqF, kbT, s_II, s_In, s_IJ, s_IA, s_IL, s_IR, s_IC, s_JI, s_JJ, s_Jn, s_JA, s_JL, s_JR, s_JC, s_AI, s_AJ, s_AA, s_An, s_AL, s_AR, s_AC, s_LI, s_LJ, s_LA, s_LL, s_Ln, s_LR, s_LC, ↓b_of pn, k75, k53]
theorem p_play (x1 x2 x3 : Int32) : Pr (f_X11_play x1 x2 x3) (f_X12_play x1 x2 x3) := by
  intro S h
  have hv := Iv.of h
  generalize hr : gA S 53 = r at hv
  have h16 := hv.wf.n16
  have hP := h.pl
  obtain ⟨V, hA, hM⟩ := ask2 hv
  have b0 := e_isWedding x1 x2 S
  have l1 : (x3 < nI 0) = (x3.toInt < (0 : Nat)) := lt_xn x3 0 (by decide)
  have l2 : (x3 ≤ nI 8) = (x3.toInt ≤ (8 : Nat)) := le_xn x3 8 (by decide)
  by_cases c : ((0 ≤ x1.toInt ∧ x1.toInt ≤ 7) ∧ (0 ≤ x2.toInt ∧ x2.toInt ≤ 240) ∧ (0 ≤ x3.toInt ∧ x3.toInt ≤ 8))
  · rw [decide_eq_true (show (0 ≤ x1.toInt ∧ x1.toInt ≤ 7) ∧ (0 ≤ x2.toInt ∧ x2.toInt ≤ 240) from ⟨c.1, c.2.1⟩), kB_t] at b0
    obtain ⟨p, rfl, hp, -⟩ := rng_n (x := x1) (n := 8) (by omega)
    obtain ⟨M, rfl, hM', -⟩ := rng_n (x := x2) (n := 241) (by omega)
    obtain ⟨B, rfl, hB, -⟩ := rng_n (x := x3) (n := 9) (by omega)
    obtain ⟨W, cc, w1, w2, w3, w4, w5, w6, w7, w8⟩ := e_cbest hA hP (Fr.refl S) hp (show M ≤ 240 by omega) (show B ≤ 8 by omega)
    have c9 : ∀ e, cc e ≤ 9 := fun e => Nat.le_trans (w4.1.1 e) (cap_9 hv.wf V p e)
    have cH : ∀ e, e < nD r → cc e ≤ dHa r e := fun e he => by
      have := w4.1.1 e
      unfold cap at this
      by_cases q : e < nD r ∧ plB r V p e = true
      · rw [if_pos q] at this; exact this
      · rw [if_neg q] at this; omega
    have wb := wo_bd (V := V) hv.wf w3.2.2 c9
    have hh : ∀ d, d < nD r → dHa r d - cc d < 10 := fun d hd => by
      have := (hv.wf.ha hd).2.1
      omega
    obtain ⟨U, u1, u2, u3⟩ := l_payAll w3.1 cH w8 (nD r) FU 0 W (by omega) (FU_ge (by omega)) (Fr.refl W) (fun e he => by
      rw [if_neg (Nat.not_lt_zero e)]; exact (w3.1.C he).2.2.2.1)
    obtain ⟨T1, t1, t2⟩ := c_sweep (U := U) (h := fun e => dHa r e - cc e) hv ((w2.mono rfl rfl rfl rfl).trans (u2.mono rfl rfl rfl rfl)) u3 hh
    obtain ⟨T1', t1', -, t3, -⟩ := e_drop (S0 := U) h16 ((u2.I (k := 1) rfl).trans w3.1.I1) (h := fun e => dHa r e - cc e) (fun d hd => ⟨u3 d hd, by have := hh d hd; show dHa r d - cc d < 2147483648; omega⟩)
    have et : T1' = T1 := Option.some.inj (t1'.symm.trans t1)
    subst et
    have k22 : gI T1' 22 = nI (wo r V cc) := by rw [t3.I (k := 22) rfl, u2.I (k := 22) rfl, w5]
    have pp : f_X2_payAll W = some T1' := by
      have e : f_X2_payAll W = f_X2_payAll_2 FU (nI 0) W := rfl
      rw [e, u1, t1]; rfl
    have e53 : gA (sI (sI T1' 32 (nI 0)) 33 (nI 0)) 53 = r := (t2.1.A (k := 53) rfl).trans hr
    have b1 := e_m_isWedding (nI p) (nI M) (nI B) (sI (sI T1' 32 (nI 0)) 33 (nI 0))
    rw [decide_eq_true c, kB_t] at b1
    obtain ⟨X, m1, m2, m3⟩ := hM _ (irT hv.wf e53)
    obtain ⟨C, c', n1, n2, n3, n4, n5, n6, n7⟩ := e_mbest m3 hp (show M ≤ 240 by omega) (show B ≤ 8 by omega)
    have ec := Bst.uniq hv.wf w4 n3
    subst ec
    have hQ := m3.fr n2 rfl rfl rfl rfl
    obtain ⟨D, y1, y2⟩ := l_play34 hv.wf cH n7 (nD r) FU 0 C (by omega) (FU_ge (by omega)) ⟨Fr.refl C, fun d hd => by rw [hQ.1.m]; exact (hv.wf.ha hd).1, fun i _ => by rw [hQ.1.m]⟩
    obtain ⟨T2, v1, v2, v3⟩ := m_sweep (V := D) (h := fun e => dHa r e - cc e) hv.wf y2.2.1 y2.2.2 hh
    have k51 : gI T2 51 = nI (wo r V cc) := by rw [v2.I (k := 51) rfl, y2.1.I (k := 51) rfl, n4]
    have fD : Fr scI scJ (53 :: scA) scL (sI T1' 32 (nI 0)) D := (((Fr.refl _).sI (k := 33) rfl _).trans (m2.mono rfl rfl rfl rfl)).trans ((n2.mono rfl rfl rfl rfl : Fr scI scJ (53 :: scA) scL X C).trans (y2.1.mono rfl rfl rfl rfl))
    refine ⟨nI (wo r V cc), sI T1' 32 (nI 0), sI T2 34 (nI 0), ?_, ?_, pr_sw hv hh t2 fD v2 v3⟩
    · unfold f_X11_play
      simp (disch := omega) only [k_let, Option.bind_some, ↓reduceIte, eq_self, true_or, or_true, n01_0, n01_1, kb_or, kb_0T, kb_0F, vn_0, vn_1, vn_k, nl_0, nl_1, nl_2, nl_3, nl_4, nl_5, nl_6, nl_7, nl_8, nl_9, nl_10, nl_11, nl_12, nl_13, nl_14, nl_15, nl_16, nl_20, nl_21, nl_22, nl_23, nl_24, nl_25, nl_26, nl_27, nl_28, nl_29, nl_30, nl_31, nl_32, nl_40, nl_41, nl_42, nl_43, nl_45, nl_47, nl_48, nl_50, nl_57, nl_59, nl_60, nl_61, nl_62, nl_63, nl_64, nl_91, nl_93, nl_94, nl_97, nl_98, nl_100, nl_110, nl_122, nl_130, nl_144, nl_160, nl_240, nl_241, nl_255, nl_256, nl_400, nl_800, nl_900, nl_999, nl_1000, nl_1001, nl_1024, nl_1103, nl_1928, nl_4321, nl_5560, nl_12345, nl_1000000, nl_1000003, nl_252645135, nl_858993459, nl_1431655765, nl_1000000000, nI_add, pk_mul, n_sub, n_neg, n_cl, leT, leF, ltT, ltF, eqT, eqF, kbT, s_II, s_In, s_IJ, s_IA, s_IL, s_IR, s_IC, s_JI, s_JJ, s_Jn, s_JA, s_JL, s_JR, s_JC, s_AI, s_AJ, s_AA, s_An, s_AL, s_AR, s_AC, s_LI, s_LJ, s_LA, s_LL, s_Ln, s_LR, s_LC, zleT, zleF, zltT, zltF, zeqT, zeqF, nzleT, nzleF, nzltT, nzltF, nzeqT, nzeqF, znleT, znleF, znltT, znltF, zneqT, zneqF, z_add, z_sub, z_mul, z_neg, z_an, z_na, z_sn, z_ns, z_mn, z_nm, Nat.add_sub_cancel, decide_true, decide_false, and_self, e_done, e_ref1, e_ref2, e_ref3, e_ref5, e_ref6, e_tel1, e_tel2, e_tel3, e_tel5, e_tel6, e_telN, rfT_m, ↓b_of b0, ↓b_of w1, ↓b_of pp, k22]
    · have y1' : f_X12_play_34 FU (0 : Int32) C = some (nI (wo r V cc), sI T2 34 (nI 0)) := by
        have e : f_X12_play_34 FU (0 : Int32) C = f_X12_play_34 FU (nI 0) C := rfl
        rw [e, y1, v1, Option.bind_some, k51, e_telN (by omega)]
        rfl
      unfold f_X12_play
      simp (disch := omega) only [k_let, Option.bind_some, ↓reduceIte, eq_self, true_or, or_true, n01_0, n01_1, kb_or, kb_0T, kb_0F, vn_0, vn_1, vn_k, nl_0, leT, leF, ltT, ltF, eqT, eqF, kbT, ↓b_of b1, ↓b_of m1, ↓b_of n1]
      exact y1'
  · have b1 := e_m_isWedding x1 x2 x3 (sI (rfT (iZ (-((1 : Nat) : Int))) 0 S) 33 (nI 0))
    rw [decide_eq_false c, kB_f] at b1
    refine ⟨iZ (-((1 : Nat) : Int)), rfT (iZ (-((1 : Nat) : Int))) 0 S, tlT (iZ (-((1 : Nat) : Int))) 1 (sI (rfT (iZ (-((1 : Nat) : Int))) 0 S) 33 (nI 0)), ?_, ?_, h.refuse _ 0 1 (by decide)⟩
    · unfold f_X11_play f_X11_play_18
      by_cases c2 : (0 ≤ x1.toInt ∧ x1.toInt ≤ 7) ∧ (0 ≤ x2.toInt ∧ x2.toInt ≤ 240)
      · rw [decide_eq_true c2, kB_t] at b0
        by_cases c3 : x3.toInt < (0 : Nat)
        · simp (disch := omega) only [k_let, Option.bind_some, ↓reduceIte, eq_self, true_or, or_true, n01_0, n01_1, kb_or, kb_0T, kb_0F, vn_0, vn_1, vn_k, nl_0, nl_1, nl_2, nl_3, nl_4, nl_5, nl_6, nl_7, nl_8, nl_9, nl_10, nl_11, nl_12, nl_13, nl_14, nl_15, nl_16, nl_20, nl_21, nl_22, nl_23, nl_24, nl_25, nl_26, nl_27, nl_28, nl_29, nl_30, nl_31, nl_32, nl_40, nl_41, nl_42, nl_43, nl_45, nl_47, nl_48, nl_50, nl_57, nl_59, nl_60, nl_61, nl_62, nl_63, nl_64, nl_91, nl_93, nl_94, nl_97, nl_98, nl_100, nl_110, nl_122, nl_130, nl_144, nl_160, nl_240, nl_241, nl_255, nl_256, nl_400, nl_800, nl_900, nl_999, nl_1000, nl_1001, nl_1024, nl_1103, nl_1928, nl_4321, nl_5560, nl_12345, nl_1000000, nl_1000003, nl_252645135, nl_858993459, nl_1431655765, nl_1000000000, nI_add, pk_mul, n_sub, n_neg, n_cl, leT, leF, ltT, ltF, eqT, eqF, kbT, s_II, s_In, s_IJ, s_IA, s_IL, s_IR, s_IC, s_JI, s_JJ, s_Jn, s_JA, s_JL, s_JR, s_JC, s_AI, s_AJ, s_AA, s_An, s_AL, s_AR, s_AC, s_LI, s_LJ, s_LA, s_LL, s_Ln, s_LR, s_LC, zleT, zleF, zltT, zltF, zeqT, zeqF, nzleT, nzleF, nzltT, nzltF, nzeqT, nzeqF, znleT, znleF, znltT, znltF, zneqT, zneqF, z_add, z_sub, z_mul, z_neg, z_an, z_na, z_sn, z_ns, z_mn, z_nm, Nat.add_sub_cancel, decide_true, decide_false, and_self, e_done, e_ref1, e_ref2, e_ref3, e_ref5, e_ref6, e_tel1, e_tel2, e_tel3, e_tel5, e_tel6, e_telN, rfT_m, ↓b_of b0, l1, c3]
        · have c4 : ¬ x3.toInt ≤ (8 : Nat) := fun z => c ⟨c2.1, c2.2, by omega, by omega⟩
          simp (disch := omega) only [k_let, Option.bind_some, ↓reduceIte, eq_self, true_or, or_true, n01_0, n01_1, kb_or, kb_0T, kb_0F, vn_0, vn_1, vn_k, nl_0, nl_1, nl_2, nl_3, nl_4, nl_5, nl_6, nl_7, nl_8, nl_9, nl_10, nl_11, nl_12, nl_13, nl_14, nl_15, nl_16, nl_20, nl_21, nl_22, nl_23, nl_24, nl_25, nl_26, nl_27, nl_28, nl_29, nl_30, nl_31, nl_32, nl_40, nl_41, nl_42, nl_43, nl_45, nl_47, nl_48, nl_50, nl_57, nl_59, nl_60, nl_61, nl_62, nl_63, nl_64, nl_91, nl_93, nl_94, nl_97, nl_98, nl_100, nl_110, nl_122, nl_130, nl_144, nl_160, nl_240, nl_241, nl_255, nl_256, nl_400, nl_800, nl_900, nl_999, nl_1000, nl_1001, nl_1024, nl_1103, nl_1928, nl_4321, nl_5560, nl_12345, nl_1000000, nl_1000003, nl_252645135, nl_858993459, nl_1431655765, nl_1000000000, nI_add, pk_mul, n_sub, n_neg, n_cl, leT, leF, ltT, ltF, eqT, eqF, kbT, s_II, s_In, s_IJ, s_IA, s_IL, s_IR, s_IC, s_JI, s_JJ, s_Jn, s_JA, s_JL, s_JR, s_JC, s_AI, s_AJ, s_AA, s_An, s_AL, s_AR, s_AC, s_LI, s_LJ, s_LA, s_LL, s_Ln, s_LR, s_LC, zleT, zleF, zltT, zltF, zeqT, zeqF, nzleT, nzleF, nzltT, nzltF, nzeqT, nzeqF, znleT, znleF, znltT, znltF, zneqT, zneqF, z_add, z_sub, z_mul, z_neg, z_an, z_na, z_sn, z_ns, z_mn, z_nm, Nat.add_sub_cancel, decide_true, decide_false, and_self, e_done, e_ref1, e_ref2, e_ref3, e_ref5, e_ref6, e_tel1, e_tel2, e_tel3, e_tel5, e_tel6, e_telN, rfT_m, ↓b_of b0, l1, l2, c3, c4]
      · rw [decide_eq_false c2, kB_f] at b0
        simp (disch := omega) only [k_let, Option.bind_some, ↓reduceIte, eq_self, true_or, or_true, n01_0, n01_1, kb_or, kb_0T, kb_0F, vn_0, vn_1, vn_k, nl_0, nl_1, nl_2, nl_3, nl_4, nl_5, nl_6, nl_7, nl_8, nl_9, nl_10, nl_11, nl_12, nl_13, nl_14, nl_15, nl_16, nl_20, nl_21, nl_22, nl_23, nl_24, nl_25, nl_26, nl_27, nl_28, nl_29, nl_30, nl_31, nl_32, nl_40, nl_41, nl_42, nl_43, nl_45, nl_47, nl_48, nl_50, nl_57, nl_59, nl_60, nl_61, nl_62, nl_63, nl_64, nl_91, nl_93, nl_94, nl_97, nl_98, nl_100, nl_110, nl_122, nl_130, nl_144, nl_160, nl_240, nl_241, nl_255, nl_256, nl_400, nl_800, nl_900, nl_999, nl_1000, nl_1001, nl_1024, nl_1103, nl_1928, nl_4321, nl_5560, nl_12345, nl_1000000, nl_1000003, nl_252645135, nl_858993459, nl_1431655765, nl_1000000000, nI_add, pk_mul, n_sub, n_neg, n_cl, leT, leF, ltT, ltF, eqT, eqF, kbT, s_II, s_In, s_IJ, s_IA, s_IL, s_IR, s_IC, s_JI, s_JJ, s_Jn, s_JA, s_JL, s_JR, s_JC, s_AI, s_AJ, s_AA, s_An, s_AL, s_AR, s_AC, s_LI, s_LJ, s_LA, s_LL, s_Ln, s_LR, s_LC, zleT, zleF, zltT, zltF, zeqT, zeqF, nzleT, nzleF, nzltT, nzltF, nzeqT, nzeqF, znleT, znleF, znltT, znltF, zneqT, zneqF, z_add, z_sub, z_mul, z_neg, z_an, z_na, z_sn, z_ns, z_mn, z_nm, Nat.add_sub_cancel, decide_true, decide_false, and_self, e_done, e_ref1, e_ref2, e_ref3, e_ref5, e_ref6, e_tel1, e_tel2, e_tel3, e_tel5, e_tel6, e_telN, rfT_m, ↓b_of b0]
    · unfold f_X12_play
      simp (disch := omega) only [k_let, Option.bind_some, ↓reduceIte, eq_self, true_or, or_true, n01_0, n01_1, kb_or, kb_0T, kb_0F, vn_0, vn_1, vn_k, nl_0, nl_1, nl_2, nl_3, nl_4, nl_5, nl_6, nl_7, nl_8, nl_9, nl_10, nl_11, nl_12, nl_13, nl_14, nl_15, nl_16, nl_20, nl_21, nl_22, nl_23, nl_24, nl_25, nl_26, nl_27, nl_28, nl_29, nl_30, nl_31, nl_32, nl_40, nl_41, nl_42, nl_43, nl_45, nl_47, nl_48, nl_50, nl_57, nl_59, nl_60, nl_61, nl_62, nl_63, nl_64, nl_91, nl_93, nl_94, nl_97, nl_98, nl_100, nl_110, nl_122, nl_130, nl_144, nl_160, nl_240, nl_241, nl_255, nl_256, nl_400, nl_800, nl_900, nl_999, nl_1000, nl_1001, nl_1024, nl_1103, nl_1928, nl_4321, nl_5560, nl_12345, nl_1000000, nl_1000003, nl_252645135, nl_858993459, nl_1431655765, nl_1000000000, nI_add, pk_mul, n_sub, n_neg, n_cl, leT, leF, ltT, ltF, eqT, eqF, kbT, s_II, s_In, s_IJ, s_IA, s_IL, s_IR, s_IC, s_JI, s_JJ, s_Jn, s_JA, s_JL, s_JR, s_JC, s_AI, s_AJ, s_AA, s_An, s_AL, s_AR, s_AC, s_LI, s_LJ, s_LA, s_LL, s_Ln, s_LR, s_LC, zleT, zleF, zltT, zltF, zeqT, zeqF, nzleT, nzleF, nzltT, nzltF, nzeqT, nzeqF, znleT, znleF, znltT, znltF, zneqT, zneqF, z_add, z_sub, z_mul, z_neg, z_an, z_na, z_sn, z_ns, z_mn, z_nm, Nat.add_sub_cancel, decide_true, decide_false, and_self, e_done, e_ref1, e_ref2, e_ref3, e_ref5, e_ref6, e_tel1, e_tel2, e_tel3, e_tel5, e_tel6, e_telN, rfT_m, ↓b_of b1]
