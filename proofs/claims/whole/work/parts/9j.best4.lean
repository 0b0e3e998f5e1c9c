/-! part 9j: best: one ower joined, the class -/
theorem e_play {r : Nat → Int32} {V : Nat → Vd} {U : St} (hQ : Qc r V U) {h d : Nat} (hh : h < 8) (h20 : gI U 20 = nI h) (hd : d < nD r) : f_X2_isPlayable (nI d) U = some (kB (plB r V h d), U) := by
  have h16 := hQ.1.1.n16
  have c8 := (hQ.1.1.cr hd).2
  obtain ⟨q1, q2, q3, q4, q5⟩ := hQ.1.C hd
  obtain ⟨j1, j2, j3⟩ := hQ.2.1 d hd
  have ph := e_hasN hQ.1 hd
  unfold f_X2_isPlayable f_X2_isPlayable_55 f_X2_isPlayable_56 plB
  by_cases c : dCr r d = h
  · rw [decide_eq_true c]
    cases z1 : (V d).2.1 <;> rw [z1] at j2 <;> cases z2 : (V d).2.2 <;> rw [z2] at j3 <;> simp (disch := omega) only [k_let, Option.bind_some, ↓reduceIte, eq_self, true_or, or_true, n01_0, n01_1, kb_or, kb_0T, kb_0F, vn_0, vn_1, vn_k, nl_0, nl_1, nl_2, nl_3, nl_4, nl_5, nl_6, nl_7, nl_8, nl_9, nl_10, nl_11, nl_12, nl_13, nl_14, nl_15, nl_16, nl_20, nl_21, nl_22, nl_23, nl_24, nl_25, nl_26, nl_27, nl_28, nl_29, nl_30, nl_31, nl_32, nl_40, nl_41, nl_42, nl_43, nl_45, nl_47, nl_48, nl_50, nl_57, nl_59, nl_60, nl_61, nl_62, nl_63, nl_64, nl_91, nl_93, nl_94, nl_97, nl_98, nl_100, nl_110, nl_122, nl_130, nl_144, nl_160, nl_240, nl_241, nl_255, nl_256, nl_400, nl_800, nl_900, nl_999, nl_1000, nl_1001, nl_1024, nl_1103, nl_1928, nl_4321, nl_5560, nl_12345, nl_1000000, nl_1000003, nl_252645135, nl_858993459, nl_1431655765, nl_1000000000, nI_add, pk_mul, n_sub, n_neg, n_cl, leT, leF, ltT, ltF, eqT, eqF, kbT, s_II, s_In, s_IJ, s_IA, s_IL, s_IR, s_IC, s_JI, s_JJ, s_Jn, s_JA, s_JL, s_JR, s_JC, s_AI, s_AJ, s_AA, s_An, s_AL, s_AR, s_AC, s_LI, s_LJ, s_LA, s_LL, s_Ln, s_LR, s_LC, ↓b_of ph, q2, h20, j2, j3, kB_t, kB_f, Bool.not_true, Bool.not_false, Bool.true_and, Bool.and_true, Bool.and_false]
  · rw [decide_eq_false c]
    simp (disch := omega) only [k_let, Option.bind_some, ↓reduceIte, eq_self, true_or, or_true, n01_0, n01_1, kb_or, kb_0T, kb_0F, vn_0, vn_1, vn_k, nl_0, nl_1, nl_2, nl_3, nl_4, nl_5, nl_6, nl_7, nl_8, nl_9, nl_10, nl_11, nl_12, nl_13, nl_14, nl_15, nl_16, nl_20, nl_21, nl_22, nl_23, nl_24, nl_25, nl_26, nl_27, nl_28, nl_29, nl_30, nl_31, nl_32, nl_40, nl_41, nl_42, nl_43, nl_45, nl_47, nl_48, nl_50, nl_57, nl_59, nl_60, nl_61, nl_62, nl_63, nl_64, nl_91, nl_93, nl_94, nl_97, nl_98, nl_100, nl_110, nl_122, nl_130, nl_144, nl_160, nl_240, nl_241, nl_255, nl_256, nl_400, nl_800, nl_900, nl_999, nl_1000, nl_1001, nl_1024, nl_1103, nl_1928, nl_4321, nl_5560, nl_12345, nl_1000000, nl_1000003, nl_252645135, nl_858993459, nl_1431655765, nl_1000000000, nI_add, pk_mul, n_sub, n_neg, n_cl, leT, leF, ltT, ltF, eqT, eqF, kbT, s_II, s_In, s_IJ, s_IA, s_IL, s_IR, s_IC, s_JI, s_JJ, s_Jn, s_JA, s_JL, s_JR, s_JC, s_AI, s_AJ, s_AA, s_An, s_AL, s_AR, s_AC, s_LI, s_LJ, s_LA, s_LL, s_Ln, s_LR, s_LC, ↓b_of ph, q2, h20, kB_f, Bool.false_and]
/-- what the class's tables of a choice stand upon -/
def Pl (S : St) : Prop := ∀ d, d < 16 → gL S 37 d = lZ (10 ^ (15 - d))
theorem e_bundle {r : Nat → Int32} {V : Nat → Vd} {S : St} (hQ : Qc r V S) (hP : Pl S) {A : Nat → Fam} {d b most : Nat} (hd : d < nD r) (hb : 0 < b) (hb9 : b ≤ 9) (hm : most ≤ 240) (h21 : gI S 21 = nI most) (h9 : ∀ m, Bd9 (A m)) (h9' : ∀ m, Bd9 (bun r A d b m)) {U : St} (hF : Fr [] [] [] [35, 36] S U) (hA : ∀ m, m ≤ most → En r V U 35 36 m (A m)) :
    ∃ W, f_X2_offerBundle (nI d) (nI b) U = some W ∧ Fr [] [] [] [35, 36] S W ∧ ∀ m, m ≤ most → En r V W 35 36 m (bun r A d b m) := by
  have w := hQ.1.1
  have h16 := w.n16
  have hU := hQ.fr hF rfl rfl rfl rfl rfl
  have pl := e_lenD hU.1 hd
  obtain ⟨-, l1, l2⟩ := w.ln hd
  have k21 : gI U 21 = nI most := (hF.I (k := 21) rfl).trans h21
  have k18 := (hU.2.1 d hd).1
  have k9 := hQ.2.2 d hd
  have k37 : gL U 37 d = lZ (10 ^ (15 - d)) := by rw [hF.L (k := 37) rfl]; exact hP d (by omega)
  have tp : 0 < b * dLn r d := Nat.mul_pos hb l2
  have tb : b * dLn r d ≤ 9 * 30 := Nat.mul_le_mul hb9 (by omega)
  have ep : lZ (10 ^ (15 - d) * (b : Int)) = lZ ((b * 10 ^ (15 - d) : Nat) : Int) := by
    congr 1
    push_cast
    exact Int.mul_comm _ _
  have e0 : f_X2_offerBundle (nI d) (nI b) U = f_X2_offerBundle_72 FU (nI (b * dLn r d)) (lZ (1048576 * (b : Int) * (V d).1 - (b * dLn r d : Nat))) (lZ ((b * 10 ^ (15 - d) : Nat) : Int)) (nI most) U := by
    unfold f_X2_offerBundle
    generalize hz : b * dLn r d = z at *
    simp (disch := omega) only [k_let, Option.bind_some, ↓reduceIte, eq_self, true_or, or_true, n01_0, n01_1, kb_or, kb_0T, kb_0F, vn_0, vn_1, vn_k, nl_0, nl_1, nl_2, nl_3, nl_4, nl_5, nl_6, nl_7, nl_8, nl_9, nl_10, nl_11, nl_12, nl_13, nl_14, nl_15, nl_16, nl_20, nl_21, nl_22, nl_23, nl_24, nl_25, nl_26, nl_27, nl_28, nl_29, nl_30, nl_31, nl_32, nl_40, nl_41, nl_42, nl_43, nl_45, nl_47, nl_48, nl_50, nl_57, nl_59, nl_60, nl_61, nl_62, nl_63, nl_64, nl_91, nl_93, nl_94, nl_97, nl_98, nl_100, nl_110, nl_122, nl_130, nl_144, nl_160, nl_240, nl_241, nl_255, nl_256, nl_400, nl_800, nl_900, nl_999, nl_1000, nl_1001, nl_1024, nl_1103, nl_1928, nl_4321, nl_5560, nl_12345, nl_1000000, nl_1000003, nl_252645135, nl_858993459, nl_1431655765, nl_1000000000, nI_add, pk_mul, n_sub, n_neg, n_cl, leT, leF, ltT, ltF, eqT, eqF, kbT, s_II, s_In, s_IJ, s_IA, s_IL, s_IR, s_IC, s_JI, s_JJ, s_Jn, s_JA, s_JL, s_JR, s_JC, s_AI, s_AJ, s_AA, s_An, s_AL, s_AR, s_AC, s_LI, s_LJ, s_LA, s_LL, s_Ln, s_LR, s_LC, ll_0, ll_1, ll_2, ll_7, ll_8, ll_9, ll_10, ll_20, ll_23, ll_24, ll_26, ll_30, ll_32, ll_48, ll_96, ll_240, ll_256, ll_294, ll_498, ll_999, ll_1000, ll_1103, ll_1476, ll_12345, ll_14836, ll_65536, ll_1000000, ll_1000003, ll_1048576, ll_1000000000, ↓b_of pl, hz, k18, k21, k37, L_n, L_mul, L_sub, ep]
  by_cases c : b * dLn r d ≤ most + 1
  · obtain ⟨W, w1, w2, w3⟩ := l_bun (b := b) w hQ.2.2 hd hb hm h9 h9' (most + 1 - b * dLn r d) FU most U (by omega) (FU_ge (by omega)) (Nat.le_refl _) hF hA (fun m h1 h2 => by omega)
    exact ⟨W, by rw [e0, w1], w2, w3⟩
  · refine ⟨U, ?_, hF, fun m hmm => (hA m hmm).iff (fun c F => ⟨Or.inl, ?_⟩)⟩
    · obtain ⟨g, hg⟩ : ∃ g, FU = g + 1 := ⟨FU - 1, by have := FU_ge (m := 1) (by decide); omega⟩
      rw [e0, hg, f_X2_offerBundle_72]
      simp (disch := omega) only [k_let, Option.bind_some, ↓reduceIte, eq_self, true_or, or_true, n01_0, n01_1, kb_or, kb_0T, kb_0F, vn_0, vn_1, vn_k, nl_0, nl_1, nl_2, nl_3, nl_4, nl_5, nl_6, nl_7, nl_8, nl_9, nl_10, nl_11, nl_12, nl_13, nl_14, nl_15, nl_16, nl_20, nl_21, nl_22, nl_23, nl_24, nl_25, nl_26, nl_27, nl_28, nl_29, nl_30, nl_31, nl_32, nl_40, nl_41, nl_42, nl_43, nl_45, nl_47, nl_48, nl_50, nl_57, nl_59, nl_60, nl_61, nl_62, nl_63, nl_64, nl_91, nl_93, nl_94, nl_97, nl_98, nl_100, nl_110, nl_122, nl_130, nl_144, nl_160, nl_240, nl_241, nl_255, nl_256, nl_400, nl_800, nl_900, nl_999, nl_1000, nl_1001, nl_1024, nl_1103, nl_1928, nl_4321, nl_5560, nl_12345, nl_1000000, nl_1000003, nl_252645135, nl_858993459, nl_1431655765, nl_1000000000, nI_add, pk_mul, n_sub, n_neg, n_cl, leT, leF, ltT, ltF, eqT, eqF, kbT, s_II, s_In, s_IJ, s_IA, s_IL, s_IR, s_IC, s_JI, s_JJ, s_Jn, s_JA, s_JL, s_JR, s_JC, s_AI, s_AJ, s_AA, s_An, s_AL, s_AR, s_AC, s_LI, s_LJ, s_LA, s_LL, s_Ln, s_LR, s_LC]
    · rintro (z | ⟨z, -⟩)
      · exact z
      · omega
theorem e_offer {r : Nat → Int32} {V : Nat → Vd} {S : St} (hQ : Qc r V S) (hP : Pl S) {h o most : Nat} {A : Nat → Fam} {d : Nat} (hd : d < nD r) (ho : dOw r d = o) (hc : cap r V h d = dHa r d) (hm : most ≤ 240) (h21 : gI S 21 = nI most) (hA : ∀ m c F, A m c F → (∀ e, c e ≤ 9) ∧ ∀ e, dOw r e = o → c e = 0) {U : St} (hF : Fr [] [] [] [35, 36] S U) (hE : ∀ m, m ≤ most → En r V U 35 36 m (Wx r V h A o d 0 m)) :
    ∃ W, f_X2_offer (nI d) U = some W ∧ Fr [] [] [] [35, 36] S W ∧ ∀ m, m ≤ most → En r V W 35 36 m (Wx r V h A o (d + 1) 0 m) := by
  have w := hQ.1.1
  have h16 := w.n16
  obtain ⟨q1, q2, q3, q4, q5⟩ := hQ.1.C hd
  obtain ⟨-, a10, a0⟩ := w.ha hd
  have key : ∀ (m f k y : Nat) (U : St), dHa r d - k ≤ m → m < f → k ≤ dHa r d → 0 < y → y ≤ 20 → (k < dHa r d → y = k + 1) → Fr [] [] [] [35, 36] S U → (∀ m, m ≤ most → En r V U 35 36 m (Wx r V h A o d k m)) →
      ∃ W, f_X2_offer_27 f (nI d) (nI (dHa r d - k)) (nI y) U = some W ∧ Fr [] [] [] [35, 36] S W ∧ ∀ m, m ≤ most → En r V W 35 36 m (Wx r V h A o (d + 1) 0 m) := by
    intro m
    induction m with
    | zero =>
      intro f k y U hk hf hkH y0 y16 hy hF hE
      obtain ⟨f, rfl⟩ : ∃ g, f = g + 1 := ⟨f - 1, by omega⟩
      have : k = dHa r d := by omega
      subst this
      refine ⟨U, ?_, hF, fun m hmm => (hE m hmm).iff (Wx.cg (fun i => by rw [← hc]; exact cx_s i))⟩
      rw [f_X2_offer_27, f_X2_offer_63]
      simp (disch := omega) only [k_let, Option.bind_some, ↓reduceIte, eq_self, true_or, or_true, n01_0, n01_1, kb_or, kb_0T, kb_0F, vn_0, vn_1, vn_k, nl_0, nl_1, nl_2, nl_3, nl_4, nl_5, nl_6, nl_7, nl_8, nl_9, nl_10, nl_11, nl_12, nl_13, nl_14, nl_15, nl_16, nl_20, nl_21, nl_22, nl_23, nl_24, nl_25, nl_26, nl_27, nl_28, nl_29, nl_30, nl_31, nl_32, nl_40, nl_41, nl_42, nl_43, nl_45, nl_47, nl_48, nl_50, nl_57, nl_59, nl_60, nl_61, nl_62, nl_63, nl_64, nl_91, nl_93, nl_94, nl_97, nl_98, nl_100, nl_110, nl_122, nl_130, nl_144, nl_160, nl_240, nl_241, nl_255, nl_256, nl_400, nl_800, nl_900, nl_999, nl_1000, nl_1001, nl_1024, nl_1103, nl_1928, nl_4321, nl_5560, nl_12345, nl_1000000, nl_1000003, nl_252645135, nl_858993459, nl_1431655765, nl_1000000000, nI_add, pk_mul, n_sub, n_neg, n_cl, leT, leF, ltT, ltF, eqT, eqF, kbT, s_II, s_In, s_IJ, s_IA, s_IL, s_IR, s_IC, s_JI, s_JJ, s_Jn, s_JA, s_JL, s_JR, s_JC, s_AI, s_AJ, s_AA, s_An, s_AL, s_AR, s_AC, s_LI, s_LJ, s_LA, s_LL, s_Ln, s_LR, s_LC]
    | succ m ih =>
      intro f k y U hk hf hkH y0 y16 hy hF hE
      obtain ⟨f, rfl⟩ : ∃ g, f = g + 1 := ⟨f - 1, by omega⟩
      by_cases z : k = dHa r d
      · subst z
        refine ⟨U, ?_, hF, fun m hmm => (hE m hmm).iff (Wx.cg (fun i => by rw [← hc]; exact cx_s i))⟩
        rw [f_X2_offer_27, f_X2_offer_63]
        simp (disch := omega) only [k_let, Option.bind_some, ↓reduceIte, eq_self, true_or, or_true, n01_0, n01_1, kb_or, kb_0T, kb_0F, vn_0, vn_1, vn_k, nl_0, nl_1, nl_2, nl_3, nl_4, nl_5, nl_6, nl_7, nl_8, nl_9, nl_10, nl_11, nl_12, nl_13, nl_14, nl_15, nl_16, nl_20, nl_21, nl_22, nl_23, nl_24, nl_25, nl_26, nl_27, nl_28, nl_29, nl_30, nl_31, nl_32, nl_40, nl_41, nl_42, nl_43, nl_45, nl_47, nl_48, nl_50, nl_57, nl_59, nl_60, nl_61, nl_62, nl_63, nl_64, nl_91, nl_93, nl_94, nl_97, nl_98, nl_100, nl_110, nl_122, nl_130, nl_144, nl_160, nl_240, nl_241, nl_255, nl_256, nl_400, nl_800, nl_900, nl_999, nl_1000, nl_1001, nl_1024, nl_1103, nl_1928, nl_4321, nl_5560, nl_12345, nl_1000000, nl_1000003, nl_252645135, nl_858993459, nl_1431655765, nl_1000000000, nI_add, pk_mul, n_sub, n_neg, n_cl, leT, leF, ltT, ltF, eqT, eqF, kbT, s_II, s_In, s_IJ, s_IA, s_IL, s_IR, s_IC, s_JI, s_JJ, s_Jn, s_JA, s_JL, s_JR, s_JC, s_AI, s_AJ, s_AA, s_An, s_AL, s_AR, s_AC, s_LI, s_LJ, s_LA, s_LL, s_Ln, s_LR, s_LC]
      · have y1 := hy (by omega)
        subst y1
        have step : ∀ b, 0 < b → b ≤ k + 1 → k + b ≤ dHa r d → ∃ W, f_X2_offerBundle (nI d) (nI b) U = some W ∧ Fr [] [] [] [35, 36] S W ∧ ∀ m, m ≤ most → En r V W 35 36 m (Wx r V h A o d (k + b) m) := fun b b0 b1 b2 => by
          obtain ⟨W, w1, w2, w3⟩ := e_bundle (A := Wx r V h A o d k) hQ hP hd b0 (by omega) hm h21 (fun m c F q => Wx.c9 w hA (by omega) q) (fun m c F q => Wx.c9 w hA (show k + b ≤ 9 by omega) ((Wx.bundle hd ho b1 c F).mp q)) hF hE
          exact ⟨W, w1, w2, fun m hmm => (w3 m hmm).iff (fun c F => Wx.bundle hd ho b1 c F)⟩
        by_cases c : dHa r d - k < k + 1
        · obtain ⟨W, w1, w2, w3⟩ := step (dHa r d - k) (by omega) (by omega) (by omega)
          obtain ⟨Z, z1, z2, z3⟩ := ih f (k + (dHa r d - k)) ((k + 1) * 2) W (by omega) (by omega) (by omega) (by omega) (by omega) (by omega) w2 w3
          refine ⟨Z, ?_, z2, z3⟩
          rw [show dHa r d - (k + (dHa r d - k)) = dHa r d - k - (dHa r d - k) by omega] at z1
          rw [← z1, f_X2_offer_27]
          simp (disch := omega) only [k_let, Option.bind_some, ↓reduceIte, eq_self, true_or, or_true, n01_0, n01_1, kb_or, kb_0T, kb_0F, vn_0, vn_1, vn_k, nl_0, nl_1, nl_2, nl_3, nl_4, nl_5, nl_6, nl_7, nl_8, nl_9, nl_10, nl_11, nl_12, nl_13, nl_14, nl_15, nl_16, nl_20, nl_21, nl_22, nl_23, nl_24, nl_25, nl_26, nl_27, nl_28, nl_29, nl_30, nl_31, nl_32, nl_40, nl_41, nl_42, nl_43, nl_45, nl_47, nl_48, nl_50, nl_57, nl_59, nl_60, nl_61, nl_62, nl_63, nl_64, nl_91, nl_93, nl_94, nl_97, nl_98, nl_100, nl_110, nl_122, nl_130, nl_144, nl_160, nl_240, nl_241, nl_255, nl_256, nl_400, nl_800, nl_900, nl_999, nl_1000, nl_1001, nl_1024, nl_1103, nl_1928, nl_4321, nl_5560, nl_12345, nl_1000000, nl_1000003, nl_252645135, nl_858993459, nl_1431655765, nl_1000000000, nI_add, pk_mul, n_sub, n_neg, n_cl, leT, leF, ltT, ltF, eqT, eqF, kbT, s_II, s_In, s_IJ, s_IA, s_IL, s_IR, s_IC, s_JI, s_JJ, s_Jn, s_JA, s_JL, s_JR, s_JC, s_AI, s_AJ, s_AA, s_An, s_AL, s_AR, s_AC, s_LI, s_LJ, s_LA, s_LL, s_Ln, s_LR, s_LC, w1]
        · obtain ⟨W, w1, w2, w3⟩ := step (k + 1) (by omega) (by omega) (by omega)
          obtain ⟨Z, z1, z2, z3⟩ := ih f (k + (k + 1)) ((k + 1) * 2) W (by omega) (by omega) (by omega) (by omega) (by omega) (by omega) w2 w3
          refine ⟨Z, ?_, z2, z3⟩
          rw [show dHa r d - (k + (k + 1)) = dHa r d - k - (k + 1) by omega] at z1
          rw [← z1, f_X2_offer_27]
          simp (disch := omega) only [k_let, Option.bind_some, ↓reduceIte, eq_self, true_or, or_true, n01_0, n01_1, kb_or, kb_0T, kb_0F, vn_0, vn_1, vn_k, nl_0, nl_1, nl_2, nl_3, nl_4, nl_5, nl_6, nl_7, nl_8, nl_9, nl_10, nl_11, nl_12, nl_13, nl_14, nl_15, nl_16, nl_20, nl_21, nl_22, nl_23, nl_24, nl_25, nl_26, nl_27, nl_28, nl_29, nl_30, nl_31, nl_32, nl_40, nl_41, nl_42, nl_43, nl_45, nl_47, nl_48, nl_50, nl_57, nl_59, nl_60, nl_61, nl_62, nl_63, nl_64, nl_91, nl_93, nl_94, nl_97, nl_98, nl_100, nl_110, nl_122, nl_130, nl_144, nl_160, nl_240, nl_241, nl_255, nl_256, nl_400, nl_800, nl_900, nl_999, nl_1000, nl_1001, nl_1024, nl_1103, nl_1928, nl_4321, nl_5560, nl_12345, nl_1000000, nl_1000003, nl_252645135, nl_858993459, nl_1431655765, nl_1000000000, nI_add, pk_mul, n_sub, n_neg, n_cl, leT, leF, ltT, ltF, eqT, eqF, kbT, s_II, s_In, s_IJ, s_IA, s_IL, s_IR, s_IC, s_JI, s_JJ, s_Jn, s_JA, s_JL, s_JR, s_JC, s_AI, s_AJ, s_AA, s_An, s_AL, s_AR, s_AC, s_LI, s_LJ, s_LA, s_LL, s_Ln, s_LR, s_LC, w1]
  obtain ⟨W, w1, w2, w3⟩ := key 9 FU 0 1 U (by omega) (FU_ge (by omega)) (by omega) (by omega) (by omega) (fun _ => rfl) hF hE
  refine ⟨W, ?_, w2, w3⟩
  have ph := e_hasN (hQ.fr hF rfl rfl rfl rfl rfl).1 hd
  have k6 : gA U 6 d = nI (dHa r d) := by rw [hF.A (k := 6) rfl]; exact q4
  rw [← w1]
  unfold f_X2_offer f_X2_offer_24
  simp (disch := omega) only [k_let, Option.bind_some, ↓reduceIte, eq_self, true_or, or_true, n01_0, n01_1, kb_or, kb_0T, kb_0F, vn_0, vn_1, vn_k, nl_0, nl_1, nl_2, nl_3, nl_4, nl_5, nl_6, nl_7, nl_8, nl_9, nl_10, nl_11, nl_12, nl_13, nl_14, nl_15, nl_16, nl_20, nl_21, nl_22, nl_23, nl_24, nl_25, nl_26, nl_27, nl_28, nl_29, nl_30, nl_31, nl_32, nl_40, nl_41, nl_42, nl_43, nl_45, nl_47, nl_48, nl_50, nl_57, nl_59, nl_60, nl_61, nl_62, nl_63, nl_64, nl_91, nl_93, nl_94, nl_97, nl_98, nl_100, nl_110, nl_122, nl_130, nl_144, nl_160, nl_240, nl_241, nl_255, nl_256, nl_400, nl_800, nl_900, nl_999, nl_1000, nl_1001, nl_1024, nl_1103, nl_1928, nl_4321, nl_5560, nl_12345, nl_1000000, nl_1000003, nl_252645135, nl_858993459, nl_1431655765, nl_1000000000, nI_add, pk_mul, n_sub, n_neg, n_cl, leT, leF, ltT, ltF, eqT, eqF, kbT, s_II, s_In, s_IJ, s_IA, s_IL, s_IR, s_IC, s_JI, s_JJ, s_Jn, s_JA, s_JL, s_JR, s_JC, s_AI, s_AJ, s_AA, s_An, s_AL, s_AR, s_AC, s_LI, s_LJ, s_LA, s_LL, s_Ln, s_LR, s_LC, ↓b_of ph, k6, Nat.sub_zero]
theorem l_join81 {r : Nat → Int32} {V : Nat → Vd} {S : St} (hQ : Qc r V S) (hP : Pl S) {h o most to : Nat} {A : Nat → Fam} (hh : h < 8) (ho : o < 8) (hm : most ≤ 240) (h20 : gI S 20 = nI h) (h21 : gI S 21 = nI most) (hA : ∀ m c F, A m c F → (∀ e, c e ≤ 9) ∧ ∀ e, dOw r e = o → c e = 0) : ∀ (k f d : Nat) (U : St), d + k = nD r → k < f → Fr [] [] [] [35, 36] S U → (∀ m, m ≤ most → En r V U 35 36 m (Wx r V h A o d 0 m)) →
    ∃ W, f_X2_join_81 f (nI o) (nI to) (nI d) U = f_X2_join_135 (nI to) W ∧ Fr [] [] [] [35, 36] S W ∧ ∀ m, m ≤ most → En r V W 35 36 m (Wx r V h A o (nD r) 0 m) := by
  have w := hQ.1.1
  have h16 := w.n16
  intro k
  induction k with
  | zero =>
    intro f d U hd hf hF hE
    obtain ⟨f, rfl⟩ : ∃ g, f = g + 1 := ⟨f - 1, by omega⟩
    have : d = nD r := by omega
    subst this
    have k1 : gI U 1 = nI (nD r) := (hF.I (k := 1) rfl).trans hQ.1.I1
    refine ⟨U, ?_, hF, hE⟩
    rw [f_X2_join_81]
    simp (disch := omega) only [k_let, Option.bind_some, ↓reduceIte, eq_self, true_or, or_true, n01_0, n01_1, kb_or, kb_0T, kb_0F, vn_0, vn_1, vn_k, nl_0, nl_1, nl_2, nl_3, nl_4, nl_5, nl_6, nl_7, nl_8, nl_9, nl_10, nl_11, nl_12, nl_13, nl_14, nl_15, nl_16, nl_20, nl_21, nl_22, nl_23, nl_24, nl_25, nl_26, nl_27, nl_28, nl_29, nl_30, nl_31, nl_32, nl_40, nl_41, nl_42, nl_43, nl_45, nl_47, nl_48, nl_50, nl_57, nl_59, nl_60, nl_61, nl_62, nl_63, nl_64, nl_91, nl_93, nl_94, nl_97, nl_98, nl_100, nl_110, nl_122, nl_130, nl_144, nl_160, nl_240, nl_241, nl_255, nl_256, nl_400, nl_800, nl_900, nl_999, nl_1000, nl_1001, nl_1024, nl_1103, nl_1928, nl_4321, nl_5560, nl_12345, nl_1000000, nl_1000003, nl_252645135, nl_858993459, nl_1431655765, nl_1000000000, nI_add, pk_mul, n_sub, n_neg, n_cl, leT, leF, ltT, ltF, eqT, eqF, kbT, s_II, s_In, s_IJ, s_IA, s_IL, s_IR, s_IC, s_JI, s_JJ, s_Jn, s_JA, s_JL, s_JR, s_JC, s_AI, s_AJ, s_AA, s_An, s_AL, s_AR, s_AC, s_LI, s_LJ, s_LA, s_LL, s_Ln, s_LR, s_LC, k1]
  | succ k ih =>
    intro f d U hd hf hF hE
    obtain ⟨f, rfl⟩ : ∃ g, f = g + 1 := ⟨f - 1, by omega⟩
    have hdn : d < nD r := by omega
    have k1 : gI U 1 = nI (nD r) := (hF.I (k := 1) rfl).trans hQ.1.I1
    have hU := hQ.fr hF rfl rfl rfl rfl rfl
    have k20 : gI U 20 = nI h := (hF.I (k := 20) rfl).trans h20
    have pp := e_play hU hh k20 hdn
    have o8 := (w.ow hdn).2
    have k3 : gA U 3 d = nI (dOw r d) := by rw [hF.A (k := 3) rfl]; exact (hQ.1.C hdn).1
    by_cases c : plB r V h d = true
    · rw [c, kB_t] at pp
      have hc : cap r V h d = dHa r d := if_pos ⟨hdn, c⟩
      by_cases c2 : dOw r d = o
      · obtain ⟨Y, y1, y2, y3⟩ := e_offer hQ hP hdn c2 hc hm h21 hA hF hE
        obtain ⟨W, w1, w2, w3⟩ := ih f (d + 1) Y (by omega) (by omega) y2 y3
        refine ⟨W, ?_, w2, w3⟩
        rw [← w1, f_X2_join_81]
        simp (disch := omega) only [k_let, Option.bind_some, ↓reduceIte, eq_self, true_or, or_true, n01_0, n01_1, kb_or, kb_0T, kb_0F, vn_0, vn_1, vn_k, nl_0, nl_1, nl_2, nl_3, nl_4, nl_5, nl_6, nl_7, nl_8, nl_9, nl_10, nl_11, nl_12, nl_13, nl_14, nl_15, nl_16, nl_20, nl_21, nl_22, nl_23, nl_24, nl_25, nl_26, nl_27, nl_28, nl_29, nl_30, nl_31, nl_32, nl_40, nl_41, nl_42, nl_43, nl_45, nl_47, nl_48, nl_50, nl_57, nl_59, nl_60, nl_61, nl_62, nl_63, nl_64, nl_91, nl_93, nl_94, nl_97, nl_98, nl_100, nl_110, nl_122, nl_130, nl_144, nl_160, nl_240, nl_241, nl_255, nl_256, nl_400, nl_800, nl_900, nl_999, nl_1000, nl_1001, nl_1024, nl_1103, nl_1928, nl_4321, nl_5560, nl_12345, nl_1000000, nl_1000003, nl_252645135, nl_858993459, nl_1431655765, nl_1000000000, nI_add, pk_mul, n_sub, n_neg, n_cl, leT, leF, ltT, ltF, eqT, eqF, kbT, s_II, s_In, s_IJ, s_IA, s_IL, s_IR, s_IC, s_JI, s_JJ, s_Jn, s_JA, s_JL, s_JR, s_JC, s_AI, s_AJ, s_AA, s_An, s_AL, s_AR, s_AC, s_LI, s_LJ, s_LA, s_LL, s_Ln, s_LR, s_LC, k1, ↓b_of pp, k3, ↓b_of y1, f_X2_join_129]
      · obtain ⟨W, w1, w2, w3⟩ := ih f (d + 1) U (by omega) (by omega) hF (fun m hmm => (hE m hmm).iff (Wx.cg (cx_n (Or.inl c2))))
        refine ⟨W, ?_, w2, w3⟩
        rw [← w1, f_X2_join_81]
        simp (disch := omega) only [k_let, Option.bind_some, ↓reduceIte, eq_self, true_or, or_true, n01_0, n01_1, kb_or, kb_0T, kb_0F, vn_0, vn_1, vn_k, nl_0, nl_1, nl_2, nl_3, nl_4, nl_5, nl_6, nl_7, nl_8, nl_9, nl_10, nl_11, nl_12, nl_13, nl_14, nl_15, nl_16, nl_20, nl_21, nl_22, nl_23, nl_24, nl_25, nl_26, nl_27, nl_28, nl_29, nl_30, nl_31, nl_32, nl_40, nl_41, nl_42, nl_43, nl_45, nl_47, nl_48, nl_50, nl_57, nl_59, nl_60, nl_61, nl_62, nl_63, nl_64, nl_91, nl_93, nl_94, nl_97, nl_98, nl_100, nl_110, nl_122, nl_130, nl_144, nl_160, nl_240, nl_241, nl_255, nl_256, nl_400, nl_800, nl_900, nl_999, nl_1000, nl_1001, nl_1024, nl_1103, nl_1928, nl_4321, nl_5560, nl_12345, nl_1000000, nl_1000003, nl_252645135, nl_858993459, nl_1431655765, nl_1000000000, nI_add, pk_mul, n_sub, n_neg, n_cl, leT, leF, ltT, ltF, eqT, eqF, kbT, s_II, s_In, s_IJ, s_IA, s_IL, s_IR, s_IC, s_JI, s_JJ, s_Jn, s_JA, s_JL, s_JR, s_JC, s_AI, s_AJ, s_AA, s_An, s_AL, s_AR, s_AC, s_LI, s_LJ, s_LA, s_LL, s_Ln, s_LR, s_LC, k1, ↓b_of pp, k3, f_X2_join_129]
    · have c0 : cap r V h d = 0 := if_neg (fun z => c z.2)
      rw [Bool.not_eq_true] at c
      rw [c, kB_f] at pp
      obtain ⟨W, w1, w2, w3⟩ := ih f (d + 1) U (by omega) (by omega) hF (fun m hmm => (hE m hmm).iff (Wx.cg (cx_n (Or.inr c0))))
      refine ⟨W, ?_, w2, w3⟩
      rw [← w1, f_X2_join_81]
      simp (disch := omega) only [k_let, Option.bind_some, ↓reduceIte, eq_self, true_or, or_true, n01_0, n01_1, kb_or, kb_0T, kb_0F, vn_0, vn_1, vn_k, nl_0, nl_1, nl_2, nl_3, nl_4, nl_5, nl_6, nl_7, nl_8, nl_9, nl_10, nl_11, nl_12, nl_13, nl_14, nl_15, nl_16, nl_20, nl_21, nl_22, nl_23, nl_24, nl_25, nl_26, nl_27, nl_28, nl_29, nl_30, nl_31, nl_32, nl_40, nl_41, nl_42, nl_43, nl_45, nl_47, nl_48, nl_50, nl_57, nl_59, nl_60, nl_61, nl_62, nl_63, nl_64, nl_91, nl_93, nl_94, nl_97, nl_98, nl_100, nl_110, nl_122, nl_130, nl_144, nl_160, nl_240, nl_241, nl_255, nl_256, nl_400, nl_800, nl_900, nl_999, nl_1000, nl_1001, nl_1024, nl_1103, nl_1928, nl_4321, nl_5560, nl_12345, nl_1000000, nl_1000003, nl_252645135, nl_858993459, nl_1431655765, nl_1000000000, nI_add, pk_mul, n_sub, n_neg, n_cl, leT, leF, ltT, ltF, eqT, eqF, kbT, s_II, s_In, s_IJ, s_IA, s_IL, s_IR, s_IC, s_JI, s_JJ, s_Jn, s_JA, s_JL, s_JR, s_JC, s_AI, s_AJ, s_AA, s_An, s_AL, s_AR, s_AC, s_LI, s_LJ, s_LA, s_LL, s_Ln, s_LR, s_LC, k1, ↓b_of pp, f_X2_join_129]
