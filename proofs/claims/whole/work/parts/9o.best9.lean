/-! part 9o: best: the class finds it, the whole -/
theorem usd_z (r : Nat → Int32) (c : Nat → Nat) : bs (usd r c 0) 8 = 0 := by
  have : usd r c 0 = fun _ => false := funext (fun k => rfl)
  rw [this]; decide
theorem l_find21 {r : Nat → Int32} {V : Nat → Vd} {S : St} (hQ : Qc r V S) {h M B : Nat} (hh : h < 8) (h20 : gI S 20 = nI h) : ∀ (k f d : Nat), d + k = nD r → k < f →
    f_X2_find_21 f (nI M) (nI B) (nI (bs (usd r (cap r V h) d) 8)) (nI (sm (fun d => cap r V h d * dLn r d) d)) (nI d) S = f_X2_find_97 (nI M) (nI B) (nI (bs (us r (cap r V h)) 8)) (nI (mi r (cap r V h))) S := by
  have w := hQ.1.1
  have h16 := w.n16
  have k1 := hQ.1.I1
  intro k
  induction k with
  | zero =>
    intro f d hd hf
    obtain ⟨f, rfl⟩ : ∃ g, f = g + 1 := ⟨f - 1, by omega⟩
    have : d = nD r := by omega
    subst this
    rw [f_X2_find_21]
    simp (disch := omega) only [k_let, Option.bind_some, ↓reduceIte, eq_self, true_or, or_true, n01_0, n01_1, kb_or, kb_0T, kb_0F, vn_0, vn_1, vn_k, nl_0, nl_1, nl_2, nl_3, nl_4, nl_5, nl_6, nl_7, nl_8, nl_9, nl_10, nl_11, nl_12, nl_13, nl_14, nl_15, nl_16, nl_20, nl_21, nl_22, nl_23, nl_24, nl_25, nl_26, nl_27, nl_28, nl_29, nl_30, nl_31, nl_32, nl_40, nl_41, nl_42, nl_43, nl_45, nl_47, nl_48, nl_50, nl_57, nl_59, nl_60, nl_61, nl_62, nl_63, nl_64, nl_91, nl_93, nl_94, nl_97, nl_98, nl_100, nl_110, nl_122, nl_130, nl_144, nl_160, nl_240, nl_241, nl_255, nl_256, nl_400, nl_800, nl_900, nl_999, nl_1000, nl_1001, nl_1024, nl_1103, nl_1928, nl_4321, nl_5560, nl_12345, nl_1000000, nl_1000003, nl_252645135, nl_858993459, nl_1431655765, nl_1000000000, nI_add, pk_mul, n_sub, n_neg, n_cl, leT, leF, ltT, ltF, eqT, eqF, kbT, s_II, s_In, s_IJ, s_IA, s_IL, s_IR, s_IC, s_JI, s_JJ, s_Jn, s_JA, s_JL, s_JR, s_JC, s_AI, s_AJ, s_AA, s_An, s_AL, s_AR, s_AC, s_LI, s_LJ, s_LA, s_LL, s_Ln, s_LR, s_LC, k1]
    rfl
  | succ k ih =>
    intro f d hd hf
    obtain ⟨f, rfl⟩ : ∃ g, f = g + 1 := ⟨f - 1, by omega⟩
    have hdn : d < nD r := by omega
    have pp := e_play hQ hh h20 hdn
    have o8 := (w.ow hdn).2
    have k3 : gA S 3 d = nI (dOw r d) := (hQ.1.C hdn).1
    have k6 : gA S 6 d = nI (dHa r d) := (hQ.1.C hdn).2.2.2.1
    have pl := e_lenD hQ.1 hdn
    have u256 := bs_256 (usd r (cap r V h) d)
    have h0 := (w.ha hdn).2
    have es : sm (fun d => cap r V h d * dLn r d) (d + 1) = sm (fun d => cap r V h d * dLn r d) d + cap r V h d * dLn r d := rfl
    rw [← ih f (d + 1) (by omega) (by omega), es, f_X2_find_21]
    by_cases c : plB r V h d = true
    · have hc : cap r V h d = dHa r d := if_pos ⟨hdn, c⟩
      rw [c, kB_t] at pp
      rw [usd_1 o8 (by omega), hc]
      generalize bs (usd r (cap r V h) d) 8 = x3 at *
      generalize sm (fun d => cap r V h d * dLn r d) d = x4 at *
      simp (disch := omega) only [k_let, Option.bind_some, ↓reduceIte, eq_self, true_or, or_true, n01_0, n01_1, kb_or, kb_0T, kb_0F, vn_0, vn_1, vn_k, nl_0, nl_1, nl_2, nl_3, nl_4, nl_5, nl_6, nl_7, nl_8, nl_9, nl_10, nl_11, nl_12, nl_13, nl_14, nl_15, nl_16, nl_20, nl_21, nl_22, nl_23, nl_24, nl_25, nl_26, nl_27, nl_28, nl_29, nl_30, nl_31, nl_32, nl_40, nl_41, nl_42, nl_43, nl_45, nl_47, nl_48, nl_50, nl_57, nl_59, nl_60, nl_61, nl_62, nl_63, nl_64, nl_91, nl_93, nl_94, nl_97, nl_98, nl_100, nl_110, nl_122, nl_130, nl_144, nl_160, nl_240, nl_241, nl_255, nl_256, nl_400, nl_800, nl_900, nl_999, nl_1000, nl_1001, nl_1024, nl_1103, nl_1928, nl_4321, nl_5560, nl_12345, nl_1000000, nl_1000003, nl_252645135, nl_858993459, nl_1431655765, nl_1000000000, nI_add, pk_mul, n_sub, n_neg, n_cl, leT, leF, ltT, ltF, eqT, eqF, kbT, s_II, s_In, s_IJ, s_IA, s_IL, s_IR, s_IC, s_JI, s_JJ, s_Jn, s_JA, s_JL, s_JR, s_JC, s_AI, s_AJ, s_AA, s_An, s_AL, s_AR, s_AC, s_LI, s_LJ, s_LA, s_LL, s_Ln, s_LR, s_LC, k1, ↓b_of pp, k3, k6, ↓b_of pl, n_shl1, n_or, f_X2_find_91]
    · have c0 : cap r V h d = 0 := if_neg (fun z => c z.2)
      rw [Bool.not_eq_true] at c
      rw [c, kB_f] at pp
      rw [usd_0 c0, c0, Nat.zero_mul, Nat.add_zero]
      generalize bs (usd r (cap r V h) d) 8 = x3 at *
      generalize sm (fun d => cap r V h d * dLn r d) d = x4 at *
      simp (disch := omega) only [k_let, Option.bind_some, ↓reduceIte, eq_self, true_or, or_true, n01_0, n01_1, kb_or, kb_0T, kb_0F, vn_0, vn_1, vn_k, nl_0, nl_1, nl_2, nl_3, nl_4, nl_5, nl_6, nl_7, nl_8, nl_9, nl_10, nl_11, nl_12, nl_13, nl_14, nl_15, nl_16, nl_20, nl_21, nl_22, nl_23, nl_24, nl_25, nl_26, nl_27, nl_28, nl_29, nl_30, nl_31, nl_32, nl_40, nl_41, nl_42, nl_43, nl_45, nl_47, nl_48, nl_50, nl_57, nl_59, nl_60, nl_61, nl_62, nl_63, nl_64, nl_91, nl_93, nl_94, nl_97, nl_98, nl_100, nl_110, nl_122, nl_130, nl_144, nl_160, nl_240, nl_241, nl_255, nl_256, nl_400, nl_800, nl_900, nl_999, nl_1000, nl_1001, nl_1024, nl_1103, nl_1928, nl_4321, nl_5560, nl_12345, nl_1000000, nl_1000003, nl_252645135, nl_858993459, nl_1431655765, nl_1000000000, nI_add, pk_mul, n_sub, n_neg, n_cl, leT, leF, ltT, ltF, eqT, eqF, kbT, s_II, s_In, s_IJ, s_IA, s_IL, s_IR, s_IC, s_JI, s_JJ, s_Jn, s_JA, s_JL, s_JR, s_JC, s_AI, s_AJ, s_AA, s_An, s_AL, s_AR, s_AC, s_LI, s_LJ, s_LA, s_LL, s_Ln, s_LR, s_LC, k1, ↓b_of pp, f_X2_find_91]
theorem e_97 {P M B N : Nat} (hP : P < 256) (hM : M ≤ 240) (hB : B ≤ 8) (hN : N ≤ 4320) (S : St) : f_X2_find_97 (nI M) (nI B) (nI P) (nI N) S = if B < pc16 P then f_X2_find_139 (nI P) (nI 0) (nI B) (sI S 21 (nI (min M N))) else f_X2_find_139 (nI P) (nI 1) (nI 0) (sI S 21 (nI (min M N))) := by
  have pb := bitc P hP (sI S 21 (nI (min M N)))
  have p8 := pc_8 P hP
  unfold f_X2_find_97
  by_cases c : N < M
  · have e : min M N = N := by omega
    rw [e] at pb ⊢
    by_cases c2 : B < pc16 P
    · rw [if_pos c2]
      simp (disch := omega) only [k_let, Option.bind_some, ↓reduceIte, eq_self, true_or, or_true, n01_0, n01_1, kb_or, kb_0T, kb_0F, vn_0, vn_1, vn_k, nl_0, nl_1, nl_2, nl_3, nl_4, nl_5, nl_6, nl_7, nl_8, nl_9, nl_10, nl_11, nl_12, nl_13, nl_14, nl_15, nl_16, nl_20, nl_21, nl_22, nl_23, nl_24, nl_25, nl_26, nl_27, nl_28, nl_29, nl_30, nl_31, nl_32, nl_40, nl_41, nl_42, nl_43, nl_45, nl_47, nl_48, nl_50, nl_57, nl_59, nl_60, nl_61, nl_62, nl_63, nl_64, nl_91, nl_93, nl_94, nl_97, nl_98, nl_100, nl_110, nl_122, nl_130, nl_144, nl_160, nl_240, nl_241, nl_255, nl_256, nl_400, nl_800, nl_900, nl_999, nl_1000, nl_1001, nl_1024, nl_1103, nl_1928, nl_4321, nl_5560, nl_12345, nl_1000000, nl_1000003, nl_252645135, nl_858993459, nl_1431655765, nl_1000000000, nI_add, pk_mul, n_sub, n_neg, n_cl, leT, leF, ltT, ltF, eqT, eqF, kbT, s_II, s_In, s_IJ, s_IA, s_IL, s_IR, s_IC, s_JI, s_JJ, s_Jn, s_JA, s_JL, s_JR, s_JC, s_AI, s_AJ, s_AA, s_An, s_AL, s_AR, s_AC, s_LI, s_LJ, s_LA, s_LL, s_Ln, s_LR, s_LC, ↓b_of pb, f_X2_find_127]
    · rw [if_neg c2]
      simp (disch := omega) only [k_let, Option.bind_some, ↓reduceIte, eq_self, true_or, or_true, n01_0, n01_1, kb_or, kb_0T, kb_0F, vn_0, vn_1, vn_k, nl_0, nl_1, nl_2, nl_3, nl_4, nl_5, nl_6, nl_7, nl_8, nl_9, nl_10, nl_11, nl_12, nl_13, nl_14, nl_15, nl_16, nl_20, nl_21, nl_22, nl_23, nl_24, nl_25, nl_26, nl_27, nl_28, nl_29, nl_30, nl_31, nl_32, nl_40, nl_41, nl_42, nl_43, nl_45, nl_47, nl_48, nl_50, nl_57, nl_59, nl_60, nl_61, nl_62, nl_63, nl_64, nl_91, nl_93, nl_94, nl_97, nl_98, nl_100, nl_110, nl_122, nl_130, nl_144, nl_160, nl_240, nl_241, nl_255, nl_256, nl_400, nl_800, nl_900, nl_999, nl_1000, nl_1001, nl_1024, nl_1103, nl_1928, nl_4321, nl_5560, nl_12345, nl_1000000, nl_1000003, nl_252645135, nl_858993459, nl_1431655765, nl_1000000000, nI_add, pk_mul, n_sub, n_neg, n_cl, leT, leF, ltT, ltF, eqT, eqF, kbT, s_II, s_In, s_IJ, s_IA, s_IL, s_IR, s_IC, s_JI, s_JJ, s_Jn, s_JA, s_JL, s_JR, s_JC, s_AI, s_AJ, s_AA, s_An, s_AL, s_AR, s_AC, s_LI, s_LJ, s_LA, s_LL, s_Ln, s_LR, s_LC, ↓b_of pb, f_X2_find_127]
  · have e : min M N = M := by omega
    rw [e] at pb ⊢
    by_cases c2 : B < pc16 P
    · rw [if_pos c2]
      simp (disch := omega) only [k_let, Option.bind_some, ↓reduceIte, eq_self, true_or, or_true, n01_0, n01_1, kb_or, kb_0T, kb_0F, vn_0, vn_1, vn_k, nl_0, nl_1, nl_2, nl_3, nl_4, nl_5, nl_6, nl_7, nl_8, nl_9, nl_10, nl_11, nl_12, nl_13, nl_14, nl_15, nl_16, nl_20, nl_21, nl_22, nl_23, nl_24, nl_25, nl_26, nl_27, nl_28, nl_29, nl_30, nl_31, nl_32, nl_40, nl_41, nl_42, nl_43, nl_45, nl_47, nl_48, nl_50, nl_57, nl_59, nl_60, nl_61, nl_62, nl_63, nl_64, nl_91, nl_93, nl_94, nl_97, nl_98, nl_100, nl_110, nl_122, nl_130, nl_144, nl_160, nl_240, nl_241, nl_255, nl_256, nl_400, nl_800, nl_900, nl_999, nl_1000, nl_1001, nl_1024, nl_1103, nl_1928, nl_4321, nl_5560, nl_12345, nl_1000000, nl_1000003, nl_252645135, nl_858993459, nl_1431655765, nl_1000000000, nI_add, pk_mul, n_sub, n_neg, n_cl, leT, leF, ltT, ltF, eqT, eqF, kbT, s_II, s_In, s_IJ, s_IA, s_IL, s_IR, s_IC, s_JI, s_JJ, s_Jn, s_JA, s_JL, s_JR, s_JC, s_AI, s_AJ, s_AA, s_An, s_AL, s_AR, s_AC, s_LI, s_LJ, s_LA, s_LL, s_Ln, s_LR, s_LC, ↓b_of pb, f_X2_find_127]
    · rw [if_neg c2]
      simp (disch := omega) only [k_let, Option.bind_some, ↓reduceIte, eq_self, true_or, or_true, n01_0, n01_1, kb_or, kb_0T, kb_0F, vn_0, vn_1, vn_k, nl_0, nl_1, nl_2, nl_3, nl_4, nl_5, nl_6, nl_7, nl_8, nl_9, nl_10, nl_11, nl_12, nl_13, nl_14, nl_15, nl_16, nl_20, nl_21, nl_22, nl_23, nl_24, nl_25, nl_26, nl_27, nl_28, nl_29, nl_30, nl_31, nl_32, nl_40, nl_41, nl_42, nl_43, nl_45, nl_47, nl_48, nl_50, nl_57, nl_59, nl_60, nl_61, nl_62, nl_63, nl_64, nl_91, nl_93, nl_94, nl_97, nl_98, nl_100, nl_110, nl_122, nl_130, nl_144, nl_160, nl_240, nl_241, nl_255, nl_256, nl_400, nl_800, nl_900, nl_999, nl_1000, nl_1001, nl_1024, nl_1103, nl_1928, nl_4321, nl_5560, nl_12345, nl_1000000, nl_1000003, nl_252645135, nl_858993459, nl_1431655765, nl_1000000000, nI_add, pk_mul, n_sub, n_neg, n_cl, leT, leF, ltT, ltF, eqT, eqF, kbT, s_II, s_In, s_IJ, s_IA, s_IL, s_IR, s_IC, s_JI, s_JJ, s_Jn, s_JA, s_JL, s_JR, s_JC, s_AI, s_AJ, s_AA, s_An, s_AL, s_AR, s_AC, s_LI, s_LJ, s_LA, s_LL, s_Ln, s_LR, s_LC, ↓b_of pb, f_X2_find_127]
theorem e_139 {r : Nat → Int32} {V : Nat → Vd} {S : St} (hQ : Qc r V S) (hP : Pl S) {h M B top : Nat} {en : Bool} (hh : h < 8) (hM : M ≤ 240) (ht7 : top ≤ 7) (he : en = decide (pc16 (bs (us r (cap r V h)) 8) ≤ B)) (ht : top = if en = true then 0 else B) (h20 : gI S 20 = nI h) (h21 : gI S 21 = nI (min M (mi r (cap r V h)))) :
    ∃ W c, f_X2_find_139 (nI (bs (us r (cap r V h)) 8)) (kB en) (nI top) S = some W ∧ Fr [22, 23, 24] [] [38] [33, 34, 35, 36] S W ∧ Bst r V h M B c ∧ gI W 22 = nI (wo r V c) ∧ gI W 23 = nI (bs (us r c) 8) ∧ gI W 24 = nI (mi r c) ∧ ∀ e, e < nD r → gA W 38 e = nI (c e) := by
  have w := hQ.1.1
  have hm : min M (mi r (cap r V h)) ≤ 240 := by omega
  obtain ⟨X, x1, x2, x3, -⟩ := l_clear ((top + 1) * 241) FU 0 ((top + 1) * 241) S (by omega) (by omega) (FU_ge (by omega))
  have f1 : Fr [] [] [] [33, 34, 35, 36] S X := x2.mono rfl rfl rfl rfl
  have pc : f_X2_clear (nI top) S = some X := by
    rw [← x1]
    unfold f_X2_clear
    simp (disch := omega) only [k_let, Option.bind_some, ↓reduceIte, eq_self, true_or, or_true, n01_0, n01_1, kb_or, kb_0T, kb_0F, vn_0, vn_1, vn_k, nl_0, nl_1, nl_2, nl_3, nl_4, nl_5, nl_6, nl_7, nl_8, nl_9, nl_10, nl_11, nl_12, nl_13, nl_14, nl_15, nl_16, nl_20, nl_21, nl_22, nl_23, nl_24, nl_25, nl_26, nl_27, nl_28, nl_29, nl_30, nl_31, nl_32, nl_40, nl_41, nl_42, nl_43, nl_45, nl_47, nl_48, nl_50, nl_57, nl_59, nl_60, nl_61, nl_62, nl_63, nl_64, nl_91, nl_93, nl_94, nl_97, nl_98, nl_100, nl_110, nl_122, nl_130, nl_144, nl_160, nl_240, nl_241, nl_255, nl_256, nl_400, nl_800, nl_900, nl_999, nl_1000, nl_1001, nl_1024, nl_1103, nl_1928, nl_4321, nl_5560, nl_12345, nl_1000000, nl_1000003, nl_252645135, nl_858993459, nl_1431655765, nl_1000000000, nI_add, pk_mul, n_sub, n_neg, n_cl, leT, leF, ltT, ltF, eqT, eqF, kbT, s_II, s_In, s_IJ, s_IA, s_IL, s_IR, s_IC, s_JI, s_JJ, s_Jn, s_JA, s_JL, s_JR, s_JC, s_AI, s_AJ, s_AA, s_An, s_AL, s_AR, s_AC, s_LI, s_LJ, s_LA, s_LL, s_Ln, s_LR, s_LC]
  obtain ⟨Y, y1, y2, y3⟩ := l_150 (top := top) (pl := us r (cap r V h)) (en := en) (o := 0) hQ hP hh hm ht7 (fun e => by rw [ht, if_pos e]) h20 h21 8 FU 0 X (by omega) (FU_ge (by omega)) f1 (fun L hL m hmm => ⟨0, 0, (x3 (L * 241 + m) (by omega) (by omega)).1, (x3 (L * 241 + m) (by omega) (by omega)).2, Bs.zero⟩)
  obtain ⟨G, D, g1, g2, g3⟩ := y3 top (Nat.le_refl _) _ (Nat.le_refl _)
  obtain ⟨c, c1, c2⟩ := bst_of w he ht rfl g3
  have c9 : ∀ e, c e ≤ 9 := fun e => Nat.le_trans (c1.1.1 e) (cap_9 w V h e)
  subst c2
  have hY := hQ.fr y2 rfl rfl rfl rfl rfl
  have hPY : Pl Y := fun d hd => by rw [y2.L (k := 37) rfl]; exact hP d hd
  have fY : Fr [22, 23, 24] [] [38] [] Y (sI (sI (sI Y 22 (nI 0)) 23 (nI 0)) 24 (nI 0)) := (((Fr.refl Y).sI rfl _).sI rfl _).sI rfl _
  obtain ⟨W, w1, w2, w3⟩ := l_read17 hY hPY c9 (nD r) FU 0 _ (by omega) (FU_ge (by have := w.n16; omega)) fY (by rw [s_In (by decide), s_In (by decide), s_II]; rfl) (by rw [s_In (by decide), s_II, usd_z]) (by rw [s_II]; rfl) (fun e he => absurd he (Nat.not_lt_zero e))
  refine ⟨W, c, ?_, (y2.mono rfl rfl rfl rfl : Fr [22, 23, 24] [] [38] [33, 34, 35, 36] S Y).trans (w2.mono rfl rfl rfl rfl), c1, w3⟩
  unfold f_X2_find_139
  rw [pc, Option.bind_some, show (0 : Int32) = nI 0 from rfl, y1, g2]
  exact w1
theorem e_cbest {r : Nat → Int32} {V : Nat → Vd} {S : St} (hA : Ask r V S) (hP : Pl S) {T : St} (fT : Fs S T) {h M B : Nat} (hh : h < 8) (hM : M ≤ 240) (hB : B ≤ 8) :
    ∃ W c, f_X2_find (nI h) (nI M) (nI B) T = some W ∧ Fs S W ∧ Qc r V W ∧ Bst r V h M B c ∧ gI W 22 = nI (wo r V c) ∧ gI W 23 = nI (bs (us r c) 8) ∧ gI W 24 = nI (mi r c) ∧ ∀ e, e < nD r → gA W 38 e = nI (c e) := by
  obtain ⟨⟨A, a1, a2, a3, a4⟩, -⟩ := hA T fT
  have f1 : Fr [20] [] [] [] A (sI A 20 (nI h)) := (Fr.refl A).sI rfl _
  have h1 := a4.fr f1 rfl rfl rfl rfl rfl
  have w := a4.1.1
  have hN := mi_bd w (cap_9 w V h)
  have k1 := l_find21 (M := M) (B := B) h1 hh (s_II _ _ _) (nD r) FU 0 (by omega) (FU_ge (by have := w.n16; omega))
  rw [usd_z, e_97 (bs_256 _) hM hB hN] at k1
  have f2 : Fr [20, 21] [] [] [] A (sI (sI A 20 (nI h)) 21 (nI (min M (mi r (cap r V h))))) := ((Fr.refl A).sI rfl _).sI rfl _
  have h2 := a4.fr f2 rfl rfl rfl rfl rfl
  have p2 : Pl (sI (sI A 20 (nI h)) 21 (nI (min M (mi r (cap r V h))))) := fun d hd => by
    rw [f2.L (k := 37) rfl, a3.L (k := 37) rfl]; exact hP d hd
  have p8 := pc_8 _ (bs_256 (us r (cap r V h)))
  have key : ∃ W c, f_X2_find (nI h) (nI M) (nI B) T = some W ∧ Fr [22, 23, 24] [] [38] [33, 34, 35, 36] (sI (sI A 20 (nI h)) 21 (nI (min M (mi r (cap r V h))))) W ∧ Bst r V h M B c ∧ gI W 22 = nI (wo r V c) ∧ gI W 23 = nI (bs (us r c) 8) ∧ gI W 24 = nI (mi r c) ∧ ∀ e, e < nD r → gA W 38 e = nI (c e) := by
    have e0 : f_X2_find (nI h) (nI M) (nI B) T = f_X2_find_21 FU (nI M) (nI B) (nI 0) (nI 0) (nI 0) (sI A 20 (nI h)) := by
      unfold f_X2_find
      rw [a1, Option.bind_some]
      rfl
    by_cases c : B < pc16 (bs (us r (cap r V h)) 8)
    · obtain ⟨W, cc, w1, w2⟩ := e_139 (B := B) (en := false) h2 p2 hh hM (show B ≤ 7 by omega) (decide_eq_false (by omega)).symm rfl (by rw [s_In (by decide), s_II]) (s_II _ _ _)
      refine ⟨W, cc, ?_, w2⟩
      rw [if_pos c] at k1
      rw [e0, ← w1]
      exact k1
    · obtain ⟨W, cc, w1, w2⟩ := e_139 (B := B) (en := true) h2 p2 hh hM (show 0 ≤ 7 by omega) (decide_eq_true (by omega)).symm rfl (by rw [s_In (by decide), s_II]) (s_II _ _ _)
      refine ⟨W, cc, ?_, w2⟩
      rw [if_neg c] at k1
      rw [e0, ← w1]
      exact k1
  obtain ⟨W, c, w1, w2, w3⟩ := key
  exact ⟨W, c, w1, (a3.trans (f2.mono rfl rfl rfl rfl)).trans (w2.mono rfl rfl rfl rfl), h2.fr w2 rfl rfl rfl rfl rfl, w3⟩
