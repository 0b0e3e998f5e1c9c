/-! part 9k: best: one ower joined, the whole of it -/
theorem e_place {L m : Nat} (hL : L ≤ 7) (hm : m ≤ 240) (S : St) : f_X2_placeOf (nI L) (nI m) S = some (nI (L * 241 + m), S) := by
  unfold f_X2_placeOf f_X2_placeOf_24
  simp (disch := omega) only [k_let, Option.bind_some, ↓reduceIte, eq_self, true_or, or_true, n01_0, n01_1, kb_or, kb_0T, kb_0F, vn_0, vn_1, vn_k, nl_0, nl_1, nl_2, nl_3, nl_4, nl_5, nl_6, nl_7, nl_8, nl_9, nl_10, nl_11, nl_12, nl_13, nl_14, nl_15, nl_16, nl_20, nl_21, nl_22, nl_23, nl_24, nl_25, nl_26, nl_27, nl_28, nl_29, nl_30, nl_31, nl_32, nl_40, nl_41, nl_42, nl_43, nl_45, nl_47, nl_48, nl_50, nl_57, nl_59, nl_60, nl_61, nl_62, nl_63, nl_64, nl_91, nl_93, nl_94, nl_97, nl_98, nl_100, nl_110, nl_122, nl_130, nl_144, nl_160, nl_240, nl_241, nl_255, nl_256, nl_400, nl_800, nl_900, nl_999, nl_1000, nl_1001, nl_1024, nl_1103, nl_1928, nl_4321, nl_5560, nl_12345, nl_1000000, nl_1000003, nl_252645135, nl_858993459, nl_1431655765, nl_1000000000, nI_add, pk_mul, n_sub, n_neg, n_cl, leT, leF, ltT, ltF, eqT, eqF, kbT, s_II, s_In, s_IJ, s_IA, s_IL, s_IR, s_IC, s_JI, s_JJ, s_Jn, s_JA, s_JL, s_JR, s_JC, s_AI, s_AJ, s_AA, s_An, s_AL, s_AR, s_AC, s_LI, s_LJ, s_LA, s_LL, s_Ln, s_LR, s_LC]
theorem shl8 : ∀ o, o < 8 → ((65536 : Int64) + ((256 : Int64) * ((1 : Int64) <<< ((nI o).toInt64 &&& 63)))) = lZ ((65536 + 256 * 2 ^ o : Nat) : Int) := by decide +kernel
theorem l_join16 {r : Nat → Int32} {V : Nat → Vd} {S : St} (w : Wf r) {h o most fr to : Nat} {A : Nat → Fam} (hm : most ≤ 240) (hfr : fr ≤ 7) (ho : o < 8) (h21 : gI S 21 = nI most) (hA : ∀ m c F, A m c F → F o = false) (hE : ∀ m, m ≤ most → En r V S 33 34 (fr * 241 + m) (A m)) : ∀ (k f x : Nat) (U : St), x + k = most + 1 → k < f → Fr [] [] [] [35, 36] S U → (∀ m, m < x → En r V U 35 36 m (Wx r V h A o 0 0 m)) →
    ∃ W, f_X2_join_16 f (nI o) (nI fr) (nI to) (lZ ((65536 + 256 * 2 ^ o : Nat) : Int)) (nI x) U = f_X2_join_78 (nI o) (nI to) W ∧ Fr [] [] [] [35, 36] S W ∧ ∀ m, m ≤ most → En r V W 35 36 m (Wx r V h A o 0 0 m) := by
  intro k
  induction k with
  | zero =>
    intro f x U hx hf hF hI
    obtain ⟨f, rfl⟩ : ∃ g, f = g + 1 := ⟨f - 1, by omega⟩
    have k21 : gI U 21 = nI most := (hF.I (k := 21) rfl).trans h21
    refine ⟨U, ?_, hF, fun m hmm => hI m (by omega)⟩
    rw [f_X2_join_16]
    simp (disch := omega) only [k_let, Option.bind_some, ↓reduceIte, eq_self, true_or, or_true, n01_0, n01_1, kb_or, kb_0T, kb_0F, vn_0, vn_1, vn_k, nl_0, nl_1, nl_2, nl_3, nl_4, nl_5, nl_6, nl_7, nl_8, nl_9, nl_10, nl_11, nl_12, nl_13, nl_14, nl_15, nl_16, nl_20, nl_21, nl_22, nl_23, nl_24, nl_25, nl_26, nl_27, nl_28, nl_29, nl_30, nl_31, nl_32, nl_40, nl_41, nl_42, nl_43, nl_45, nl_47, nl_48, nl_50, nl_57, nl_59, nl_60, nl_61, nl_62, nl_63, nl_64, nl_91, nl_93, nl_94, nl_97, nl_98, nl_100, nl_110, nl_122, nl_130, nl_144, nl_160, nl_240, nl_241, nl_255, nl_256, nl_400, nl_800, nl_900, nl_999, nl_1000, nl_1001, nl_1024, nl_1103, nl_1928, nl_4321, nl_5560, nl_12345, nl_1000000, nl_1000003, nl_252645135, nl_858993459, nl_1431655765, nl_1000000000, nI_add, pk_mul, n_sub, n_neg, n_cl, leT, leF, ltT, ltF, eqT, eqF, kbT, s_II, s_In, s_IJ, s_IA, s_IL, s_IR, s_IC, s_JI, s_JJ, s_Jn, s_JA, s_JL, s_JR, s_JC, s_AI, s_AJ, s_AA, s_An, s_AL, s_AR, s_AC, s_LI, s_LJ, s_LA, s_LL, s_Ln, s_LR, s_LC, k21]
  | succ k ih =>
    intro f x U hx hf hF hI
    obtain ⟨f, rfl⟩ : ∃ g, f = g + 1 := ⟨f - 1, by omega⟩
    have k21 : gI U 21 = nI most := (hF.I (k := 21) rfl).trans h21
    obtain ⟨G, D, a1, a2, a3⟩ := hE x (by omega)
    rw [← hF.L (k := 33) rfl] at a1
    rw [← hF.L (k := 34) rfl] at a2
    have pp := e_place hfr (show x ≤ 240 by omega) U
    have m1 := a3.fl ho (hA x)
    obtain ⟨W, w1, w2, w3⟩ := ih f (x + 1) (sL (sL U 35 x (lZ (G - ((65536 + 256 * 2 ^ o : Nat) : Int)))) 36 x (lZ (D : Int))) (by omega) (by omega) ((hF.sL rfl _ _).sL rfl _ _) (fun m h1 => by
      by_cases q : m = x
      · subst q
        exact ⟨_, _, by rw [s_Ln (by decide), s_LL, u_La, if_pos rfl], by rw [s_LL, u_La, if_pos rfl], m1.iff Wx.zero⟩
      · exact (hI m (by omega)).fr (by rw [s_Ln (by decide), s_LL, u_La, if_neg q]) (by rw [s_LL, u_La, if_neg q, s_Ln (by decide)]))
    refine ⟨W, ?_, w2, w3⟩
    rw [← w1, f_X2_join_16]
    generalize ((65536 + 256 * 2 ^ o : Nat) : Int) = cost at *
    simp (disch := omega) only [k_let, Option.bind_some, ↓reduceIte, eq_self, true_or, or_true, n01_0, n01_1, kb_or, kb_0T, kb_0F, vn_0, vn_1, vn_k, nl_0, nl_1, nl_2, nl_3, nl_4, nl_5, nl_6, nl_7, nl_8, nl_9, nl_10, nl_11, nl_12, nl_13, nl_14, nl_15, nl_16, nl_20, nl_21, nl_22, nl_23, nl_24, nl_25, nl_26, nl_27, nl_28, nl_29, nl_30, nl_31, nl_32, nl_40, nl_41, nl_42, nl_43, nl_45, nl_47, nl_48, nl_50, nl_57, nl_59, nl_60, nl_61, nl_62, nl_63, nl_64, nl_91, nl_93, nl_94, nl_97, nl_98, nl_100, nl_110, nl_122, nl_130, nl_144, nl_160, nl_240, nl_241, nl_255, nl_256, nl_400, nl_800, nl_900, nl_999, nl_1000, nl_1001, nl_1024, nl_1103, nl_1928, nl_4321, nl_5560, nl_12345, nl_1000000, nl_1000003, nl_252645135, nl_858993459, nl_1431655765, nl_1000000000, nI_add, pk_mul, n_sub, n_neg, n_cl, leT, leF, ltT, ltF, eqT, eqF, kbT, s_II, s_In, s_IJ, s_IA, s_IL, s_IR, s_IC, s_JI, s_JJ, s_Jn, s_JA, s_JL, s_JR, s_JC, s_AI, s_AJ, s_AA, s_An, s_AL, s_AR, s_AC, s_LI, s_LJ, s_LA, s_LL, s_Ln, s_LR, s_LC, k21, ↓b_of pp, a1, a2, L_sub]
theorem l_join138 {r : Nat → Int32} {V : Nat → Vd} {S : St} (w : Wf r) (hV : ∀ d, d < nD r → (V d).1 ≤ 999) {most to : Nat} {A B : Nat → Fam} (hm : most ≤ 240) (hto : to ≤ 7) (h21 : gI S 21 = nI most) (hA : ∀ m, Bd9 (A m)) (hB : ∀ m, Bd9 (B m)) (hE : ∀ m, m ≤ most → En r V S 35 36 m (A m)) : ∀ (k f x : Nat) (U : St), x + k = most + 1 → k < f → Fr [] [] [] [33, 34] S U → (∀ i, i < to * 241 ∨ to * 241 + 241 ≤ i → gL U 33 i = gL S 33 i ∧ gL U 34 i = gL S 34 i) → (∀ m, m < x → En r V U 33 34 (to * 241 + m) (fun c F => B m c F ∨ A m c F)) → (∀ m, x ≤ m → m ≤ most → En r V U 33 34 (to * 241 + m) (B m)) →
    ∃ W, f_X2_join_138 f (nI to) (nI x) U = some W ∧ Fr [] [] [] [33, 34] S W ∧ (∀ i, i < to * 241 ∨ to * 241 + 241 ≤ i → gL W 33 i = gL S 33 i ∧ gL W 34 i = gL S 34 i) ∧ ∀ m, m ≤ most → En r V W 33 34 (to * 241 + m) (fun c F => B m c F ∨ A m c F) := by
  intro k
  induction k with
  | zero =>
    intro f x U hx hf hF hO h1 h2
    obtain ⟨f, rfl⟩ : ∃ g, f = g + 1 := ⟨f - 1, by omega⟩
    have k21 : gI U 21 = nI most := (hF.I (k := 21) rfl).trans h21
    refine ⟨U, ?_, hF, hO, fun m hmm => h1 m (by omega)⟩
    rw [f_X2_join_138, f_X2_join_231]
    simp (disch := omega) only [k_let, Option.bind_some, ↓reduceIte, eq_self, true_or, or_true, n01_0, n01_1, kb_or, kb_0T, kb_0F, vn_0, vn_1, vn_k, nl_0, nl_1, nl_2, nl_3, nl_4, nl_5, nl_6, nl_7, nl_8, nl_9, nl_10, nl_11, nl_12, nl_13, nl_14, nl_15, nl_16, nl_20, nl_21, nl_22, nl_23, nl_24, nl_25, nl_26, nl_27, nl_28, nl_29, nl_30, nl_31, nl_32, nl_40, nl_41, nl_42, nl_43, nl_45, nl_47, nl_48, nl_50, nl_57, nl_59, nl_60, nl_61, nl_62, nl_63, nl_64, nl_91, nl_93, nl_94, nl_97, nl_98, nl_100, nl_110, nl_122, nl_130, nl_144, nl_160, nl_240, nl_241, nl_255, nl_256, nl_400, nl_800, nl_900, nl_999, nl_1000, nl_1001, nl_1024, nl_1103, nl_1928, nl_4321, nl_5560, nl_12345, nl_1000000, nl_1000003, nl_252645135, nl_858993459, nl_1431655765, nl_1000000000, nI_add, pk_mul, n_sub, n_neg, n_cl, leT, leF, ltT, ltF, eqT, eqF, kbT, s_II, s_In, s_IJ, s_IA, s_IL, s_IR, s_IC, s_JI, s_JJ, s_Jn, s_JA, s_JL, s_JR, s_JC, s_AI, s_AJ, s_AA, s_An, s_AL, s_AR, s_AC, s_LI, s_LJ, s_LA, s_LL, s_Ln, s_LR, s_LC, k21]
  | succ k ih =>
    intro f x U hx hf hF hO h1 h2
    obtain ⟨f, rfl⟩ : ∃ g, f = g + 1 := ⟨f - 1, by omega⟩
    have k21 : gI U 21 = nI most := (hF.I (k := 21) rfl).trans h21
    obtain ⟨G, D, a1, a2, a3⟩ := hE x (by omega)
    rw [← hF.L (k := 35) rfl] at a1
    rw [← hF.L (k := 36) rfl] at a2
    obtain ⟨G', D', b1, b2, b3⟩ := h2 x (Nat.le_refl _) (by omega)
    have bd1 := a3.bd w hV (hA x)
    have bd2 := b3.bd w hV (hB x)
    have pb := e_better bd1 bd2 U
    have pp := e_place hto (show x ≤ 240 by omega) U
    by_cases c : G' < G ∨ (G = G' ∧ D < D')
    · rw [decide_eq_true c, kB_t] at pb
      obtain ⟨W, w1, w2, w3, w4⟩ := ih f (x + 1) (sL (sL U 33 (to * 241 + x) (lZ G)) 34 (to * 241 + x) (lZ (D : Int))) (by omega) (by omega) ((hF.sL rfl _ _).sL rfl _ _) (fun i hi => by
        rw [s_Ln (by decide), s_LL, u_La, if_neg (by omega), s_LL, u_La, if_neg (by omega), s_Ln (by decide)]
        exact hO i hi) (fun m hmx => by
        by_cases q : m = x
        · subst q
          exact ⟨_, _, by rw [s_Ln (by decide), s_LL, u_La, if_pos rfl], by rw [s_LL, u_La, if_pos rfl], a3.l b3 c⟩
        · exact (h1 m (by omega)).fr (by rw [s_Ln (by decide), s_LL, u_La, if_neg (by omega)]) (by rw [s_LL, u_La, if_neg (by omega), s_Ln (by decide)])) (fun m hm1 hm2 => (h2 m (by omega) hm2).fr (by rw [s_Ln (by decide), s_LL, u_La, if_neg (by omega)]) (by rw [s_LL, u_La, if_neg (by omega), s_Ln (by decide)]))
      refine ⟨W, ?_, w2, w3, w4⟩
      rw [← w1, f_X2_join_138]
      simp (disch := omega) only [k_let, Option.bind_some, ↓reduceIte, eq_self, true_or, or_true, n01_0, n01_1, kb_or, kb_0T, kb_0F, vn_0, vn_1, vn_k, nl_0, nl_1, nl_2, nl_3, nl_4, nl_5, nl_6, nl_7, nl_8, nl_9, nl_10, nl_11, nl_12, nl_13, nl_14, nl_15, nl_16, nl_20, nl_21, nl_22, nl_23, nl_24, nl_25, nl_26, nl_27, nl_28, nl_29, nl_30, nl_31, nl_32, nl_40, nl_41, nl_42, nl_43, nl_45, nl_47, nl_48, nl_50, nl_57, nl_59, nl_60, nl_61, nl_62, nl_63, nl_64, nl_91, nl_93, nl_94, nl_97, nl_98, nl_100, nl_110, nl_122, nl_130, nl_144, nl_160, nl_240, nl_241, nl_255, nl_256, nl_400, nl_800, nl_900, nl_999, nl_1000, nl_1001, nl_1024, nl_1103, nl_1928, nl_4321, nl_5560, nl_12345, nl_1000000, nl_1000003, nl_252645135, nl_858993459, nl_1431655765, nl_1000000000, nI_add, pk_mul, n_sub, n_neg, n_cl, leT, leF, ltT, ltF, eqT, eqF, kbT, s_II, s_In, s_IJ, s_IA, s_IL, s_IR, s_IC, s_JI, s_JJ, s_Jn, s_JA, s_JL, s_JR, s_JC, s_AI, s_AJ, s_AA, s_An, s_AL, s_AR, s_AC, s_LI, s_LJ, s_LA, s_LL, s_Ln, s_LR, s_LC, k21, ↓b_of pp, a1, a2, b1, b2, ↓b_of pb, f_X2_join_225]
    · rw [decide_eq_false c, kB_f] at pb
      obtain ⟨W, w1, w2, w3, w4⟩ := ih f (x + 1) U (by omega) (by omega) hF hO (fun m hmx => by
        by_cases q : m = x
        · subst q
          exact ⟨_, _, b1, b2, a3.r b3 c⟩
        · exact h1 m (by omega)) (fun m hm1 hm2 => h2 m (by omega) hm2)
      refine ⟨W, ?_, w2, w3, w4⟩
      rw [← w1, f_X2_join_138]
      simp (disch := omega) only [k_let, Option.bind_some, ↓reduceIte, eq_self, true_or, or_true, n01_0, n01_1, kb_or, kb_0T, kb_0F, vn_0, vn_1, vn_k, nl_0, nl_1, nl_2, nl_3, nl_4, nl_5, nl_6, nl_7, nl_8, nl_9, nl_10, nl_11, nl_12, nl_13, nl_14, nl_15, nl_16, nl_20, nl_21, nl_22, nl_23, nl_24, nl_25, nl_26, nl_27, nl_28, nl_29, nl_30, nl_31, nl_32, nl_40, nl_41, nl_42, nl_43, nl_45, nl_47, nl_48, nl_50, nl_57, nl_59, nl_60, nl_61, nl_62, nl_63, nl_64, nl_91, nl_93, nl_94, nl_97, nl_98, nl_100, nl_110, nl_122, nl_130, nl_144, nl_160, nl_240, nl_241, nl_255, nl_256, nl_400, nl_800, nl_900, nl_999, nl_1000, nl_1001, nl_1024, nl_1103, nl_1928, nl_4321, nl_5560, nl_12345, nl_1000000, nl_1000003, nl_252645135, nl_858993459, nl_1431655765, nl_1000000000, nI_add, pk_mul, n_sub, n_neg, n_cl, leT, leF, ltT, ltF, eqT, eqF, kbT, s_II, s_In, s_IJ, s_IA, s_IL, s_IR, s_IC, s_JI, s_JJ, s_Jn, s_JA, s_JL, s_JR, s_JC, s_AI, s_AJ, s_AA, s_An, s_AL, s_AR, s_AC, s_LI, s_LJ, s_LA, s_LL, s_Ln, s_LR, s_LC, k21, ↓b_of pp, a1, a2, b1, b2, ↓b_of pb, f_X2_join_225]
theorem e_joinO {r : Nat → Int32} {V : Nat → Vd} {S : St} (hQ : Qc r V S) (hP : Pl S) {h o most fr to : Nat} {A B : Nat → Fam} (hh : h < 8) (ho : o < 8) (hm : most ≤ 240) (hfr : fr ≤ 7) (hto : to ≤ 7) (h20 : gI S 20 = nI h) (h21 : gI S 21 = nI most) (hA : ∀ m c F, A m c F → (∀ e, c e ≤ 9) ∧ F o = false ∧ ∀ e, dOw r e = o → c e = 0) (hB : ∀ m, Bd9 (B m)) (hE : ∀ m, m ≤ most → En r V S 33 34 (fr * 241 + m) (A m)) (hE' : ∀ m, m ≤ most → En r V S 33 34 (to * 241 + m) (B m)) :
    ∃ W, f_X2_join (nI o) (nI fr) (nI to) S = some W ∧ Fr [] [] [] [33, 34, 35, 36] S W ∧ (∀ i, i < to * 241 ∨ to * 241 + 241 ≤ i → gL W 33 i = gL S 33 i ∧ gL W 34 i = gL S 34 i) ∧ ∀ m, m ≤ most → En r V W 33 34 (to * 241 + m) (fun c F => B m c F ∨ Wx r V h A o (nD r) 0 m c F) := by
  have w := hQ.1.1
  have hA' : ∀ m c F, A m c F → (∀ e, c e ≤ 9) ∧ ∀ e, dOw r e = o → c e = 0 := fun m c F q => ⟨(hA m c F q).1, (hA m c F q).2.2⟩
  obtain ⟨X, x1, x2, x3⟩ := l_join16 (V := V) (h := h) (to := to) w hm hfr ho h21 (fun m c F q => (hA m c F q).2.1) hE (most + 1) FU 0 S (by omega) (FU_ge (by omega)) (Fr.refl S) (fun m hmm => absurd hmm (Nat.not_lt_zero m))
  obtain ⟨Y, y1, y2, y3⟩ := l_join81 (to := to) hQ hP hh ho hm h20 h21 hA' (nD r) FU 0 X (by omega) (FU_ge (by have := w.n16; omega)) x2 x3
  have k33 : gL Y 33 = gL S 33 := y2.L (k := 33) rfl
  have k34 : gL Y 34 = gL S 34 := y2.L (k := 34) rfl
  obtain ⟨Z, z1, z2, z3, z4⟩ := l_join138 (B := B) w hQ.2.2 hm hto ((y2.I (k := 21) rfl).trans h21) (fun m c F q => Wx.c9 w hA' (by omega) q) hB y3 (most + 1) FU 0 Y (by omega) (FU_ge (by omega)) (Fr.refl Y) (fun i _ => ⟨rfl, rfl⟩) (fun m hmm => absurd hmm (Nat.not_lt_zero m)) (fun m _ hmm => (hE' m hmm).fr (by rw [k33]) (by rw [k34]))
  refine ⟨Z, ?_, (y2.mono rfl rfl rfl rfl : Fr [] [] [] [33, 34, 35, 36] S Y).trans (z2.mono rfl rfl rfl rfl), fun i hi => ?_, z4⟩
  · have : f_X2_join (nI o) (nI fr) (nI to) S = f_X2_join_16 FU (nI o) (nI fr) (nI to) (lZ ((65536 + 256 * 2 ^ o : Nat) : Int)) (nI 0) S := by
      unfold f_X2_join
      rw [shl8 o ho]
      rfl
    rw [this, x1]
    unfold f_X2_join_78
    rw [show (0 : Int32) = nI 0 from rfl, y1]
    unfold f_X2_join_135
    rw [show (0 : Int32) = nI 0 from rfl, z1]
  · rw [← k33, ← k34]; exact z3 i hi
