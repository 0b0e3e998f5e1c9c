/-! part 9r: best: the reference's table -/
def dnN : Nat → Int32
  | 0 => iZ (-((1 : Nat) : Int))
  | k + 1 => nI k
theorem n_dnN (k : Nat) : nI k + iZ (-((1 : Nat) : Int)) = dnN k := by
  cases k with
  | zero => rfl
  | succ k => rw [n_dn (by omega)]; rfl
theorem n_dnS (k : Nat) : nI k - nI 1 = dnN k := by
  cases k with
  | zero => rfl
  | succ k => rw [n_sub (by omega)]; rfl
theorem e_isP {r : Nat → Int32} {V : Nat → Vd} {U : St} (hQ : Qm r V U) {h s d : Nat} (hh : h < 8) (hs : s < 256) (hd : d < nD r) : f_X12_isPlayed (nI d) (nI h) (nI s) U = some (kB (plB r V h d && s.testBit (dOw r d)), U) := by
  have h16 := hQ.1.1.n16
  have c8 := (hQ.1.1.cr hd).2
  have o8 := (hQ.1.1.ow hd).2
  obtain ⟨j1, j2, j3⟩ := hQ.2.1 d hd
  have p0 : f_X12_ofDebt (nI d) (0 : Int32) U = some (nI (dOw r d), U) := e_m_ow hQ.1 hd
  have p1 : f_X12_ofDebt (nI d) (1 : Int32) U = some (nI (dCr r d), U) := e_m_cr hQ.1 hd
  have pis := e_is (s := s) (k := dOw r d) (by omega) (by omega) U
  unfold f_X12_isPlayed f_X12_isPlayed_45 f_X12_isPlayed_46 plB
  by_cases c : dCr r d = h
  · rw [decide_eq_true c]
    cases z1 : (V d).2.1 <;> rw [z1] at j2 <;> cases z2 : (V d).2.2 <;> rw [z2] at j3 <;> cases z3 : s.testBit (dOw r d) <;> rw [z3] at pis <;> simp (disch := omega) only [k_let, Option.bind_some, ↓reduceIte, eq_self, true_or, or_true, n01_0, n01_1, kb_or, kb_0T, kb_0F, vn_0, vn_1, vn_k, nl_0, nl_1, nl_2, nl_3, nl_4, nl_5, nl_6, nl_7, nl_8, nl_9, nl_10, nl_11, nl_12, nl_13, nl_14, nl_15, nl_16, nl_20, nl_21, nl_22, nl_23, nl_24, nl_25, nl_26, nl_27, nl_28, nl_29, nl_30, nl_31, nl_32, nl_40, nl_41, nl_42, nl_43, nl_45, nl_47, nl_48, nl_50, nl_57, nl_59, nl_60, nl_61, nl_62, nl_63, nl_64, nl_91, nl_93, nl_94, nl_97, nl_98, nl_100, nl_110, nl_122, nl_130, nl_144, nl_160, nl_240, nl_241, nl_255, nl_256, nl_400, nl_800, nl_900, nl_999, nl_1000, nl_1001, nl_1024, nl_1103, nl_1928, nl_4321, nl_5560, nl_12345, nl_1000000, nl_1000003, nl_252645135, nl_858993459, nl_1431655765, nl_1000000000, nI_add, pk_mul, n_sub, n_neg, n_cl, leT, leF, ltT, ltF, eqT, eqF, kbT, s_II, s_In, s_IJ, s_IA, s_IL, s_IR, s_IC, s_JI, s_JJ, s_Jn, s_JA, s_JL, s_JR, s_JC, s_AI, s_AJ, s_AA, s_An, s_AL, s_AR, s_AC, s_LI, s_LJ, s_LA, s_LL, s_Ln, s_LR, s_LC, ↓b_of p0, ↓b_of p1, ↓b_of pis, j2, j3, kB_t, kB_f, Bool.not_true, Bool.not_false, Bool.true_and, Bool.and_true, Bool.and_false, Bool.false_and]
  · rw [decide_eq_false c]
    simp (disch := omega) only [k_let, Option.bind_some, ↓reduceIte, eq_self, true_or, or_true, n01_0, n01_1, kb_or, kb_0T, kb_0F, vn_0, vn_1, vn_k, nl_0, nl_1, nl_2, nl_3, nl_4, nl_5, nl_6, nl_7, nl_8, nl_9, nl_10, nl_11, nl_12, nl_13, nl_14, nl_15, nl_16, nl_20, nl_21, nl_22, nl_23, nl_24, nl_25, nl_26, nl_27, nl_28, nl_29, nl_30, nl_31, nl_32, nl_40, nl_41, nl_42, nl_43, nl_45, nl_47, nl_48, nl_50, nl_57, nl_59, nl_60, nl_61, nl_62, nl_63, nl_64, nl_91, nl_93, nl_94, nl_97, nl_98, nl_100, nl_110, nl_122, nl_130, nl_144, nl_160, nl_240, nl_241, nl_255, nl_256, nl_400, nl_800, nl_900, nl_999, nl_1000, nl_1001, nl_1024, nl_1103, nl_1928, nl_4321, nl_5560, nl_12345, nl_1000000, nl_1000003, nl_252645135, nl_858993459, nl_1431655765, nl_1000000000, nI_add, pk_mul, n_sub, n_neg, n_cl, leT, leF, ltT, ltF, eqT, eqF, kbT, s_II, s_In, s_IJ, s_IA, s_IL, s_IR, s_IC, s_JI, s_JJ, s_Jn, s_JA, s_JL, s_JR, s_JC, s_AI, s_AJ, s_AA, s_An, s_AL, s_AR, s_AC, s_LI, s_LJ, s_LA, s_LL, s_Ln, s_LR, s_LC, ↓b_of p1, kB_f, Bool.false_and]
theorem l_m92 {U : St} {d m l wd H : Nat} {a : Nat → Nat} {x1 x2 x3 : Int32} (K : Int32 → Int32 → Int32 → Int32 → Int32 → Int32 → Int32 → St → Option St) (hd : d < 16) (hm : m ≤ 240) (hH : H ≤ 9) (hl : l ≤ 30) (hw : wd ≤ 999) (k66 : gA U 66 d = nI wd) (ha : ∀ x, x * l ≤ m → gA U 74 (241 * (d + 1) + m - x * l) = nI (a x) ∧ a x ≤ 200000) : ∀ (j f h : Nat), H + 1 = h + j → j < f →
    f_X12_findMosts_92 K f x1 x2 x3 (nI d) (nI l) (nI H) (nI m) (nI (mxF (fun x => decide (x * l ≤ m)) (fun x => x * wd + a x) h)) (nI h) U = f_X12_findMosts_166 K x1 x2 x3 (nI d) (nI l) (nI H) (nI m) (nI (mxF (fun x => decide (x * l ≤ m)) (fun x => x * wd + a x) (H + 1))) U := by
  intro j
  induction j with
  | zero =>
    intro f h hj hf
    obtain ⟨f, rfl⟩ : ∃ g, f = g + 1 := ⟨f - 1, by omega⟩
    have : h = H + 1 := by omega
    subst this
    rw [f_X12_findMosts_92]
    simp (disch := omega) only [k_let, Option.bind_some, ↓reduceIte, eq_self, true_or, or_true, n01_0, n01_1, kb_or, kb_0T, kb_0F, vn_0, vn_1, vn_k, nl_0, nl_1, nl_2, nl_3, nl_4, nl_5, nl_6, nl_7, nl_8, nl_9, nl_10, nl_11, nl_12, nl_13, nl_14, nl_15, nl_16, nl_20, nl_21, nl_22, nl_23, nl_24, nl_25, nl_26, nl_27, nl_28, nl_29, nl_30, nl_31, nl_32, nl_40, nl_41, nl_42, nl_43, nl_45, nl_47, nl_48, nl_50, nl_57, nl_59, nl_60, nl_61, nl_62, nl_63, nl_64, nl_91, nl_93, nl_94, nl_97, nl_98, nl_100, nl_110, nl_122, nl_130, nl_144, nl_160, nl_240, nl_241, nl_255, nl_256, nl_400, nl_800, nl_900, nl_999, nl_1000, nl_1001, nl_1024, nl_1103, nl_1928, nl_4321, nl_5560, nl_12345, nl_1000000, nl_1000003, nl_252645135, nl_858993459, nl_1431655765, nl_1000000000, nI_add, pk_mul, n_sub, n_neg, n_cl, leT, leF, ltT, ltF, eqT, eqF, kbT, s_II, s_In, s_IJ, s_IA, s_IL, s_IR, s_IC, s_JI, s_JJ, s_Jn, s_JA, s_JL, s_JR, s_JC, s_AI, s_AJ, s_AA, s_An, s_AL, s_AR, s_AC, s_LI, s_LJ, s_LA, s_LL, s_Ln, s_LR, s_LC]
  | succ j ih =>
    intro f h hj hf
    obtain ⟨f, rfl⟩ : ∃ g, f = g + 1 := ⟨f - 1, by omega⟩
    have hl2 : h * l ≤ 9 * 30 := Nat.mul_le_mul (by omega) hl
    have hw2 : h * wd ≤ 9 * 999 := Nat.mul_le_mul (by omega) hw
    by_cases c : h * l ≤ m
    · obtain ⟨a1, a2⟩ := ha h c
      have mb : mxF (fun x => decide (x * l ≤ m)) (fun x => x * wd + a x) h ≤ 208991 := by
        rcases mxF_at (fun x => decide (x * l ≤ m)) (fun x => x * wd + a x) h with z | ⟨x, b1, b2, b3⟩
        · omega
        · have := (ha x (of_decide_eq_true b2)).2
          have := Nat.mul_le_mul (show x ≤ 9 by omega) hw
          rw [← b3]
          show x * wd + a x ≤ _
          omega
      have es := mxF_s (fun x => decide (x * l ≤ m)) (fun x => x * wd + a x) h
      have okh : decide (h * l ≤ m) = true := decide_eq_true c
      by_cases c2 : mxF (fun x => decide (x * l ≤ m)) (fun x => x * wd + a x) h < h * wd + a h
      · have es2 : mxF (fun x => decide (x * l ≤ m)) (fun x => x * wd + a x) (h + 1) = h * wd + a h := es.trans (if_pos ⟨okh, c2⟩)
        rw [← ih f (h + 1) (by omega) (by omega), es2, f_X12_findMosts_92]
        generalize mxF (fun x => decide (x * l ≤ m)) (fun x => x * wd + a x) h = y at *
        generalize hz1 : h * l = z1 at *
        generalize hz2 : h * wd = z2 at *
        simp (disch := omega) only [k_let, Option.bind_some, ↓reduceIte, eq_self, true_or, or_true, n01_0, n01_1, kb_or, kb_0T, kb_0F, vn_0, vn_1, vn_k, nl_0, nl_1, nl_2, nl_3, nl_4, nl_5, nl_6, nl_7, nl_8, nl_9, nl_10, nl_11, nl_12, nl_13, nl_14, nl_15, nl_16, nl_20, nl_21, nl_22, nl_23, nl_24, nl_25, nl_26, nl_27, nl_28, nl_29, nl_30, nl_31, nl_32, nl_40, nl_41, nl_42, nl_43, nl_45, nl_47, nl_48, nl_50, nl_57, nl_59, nl_60, nl_61, nl_62, nl_63, nl_64, nl_91, nl_93, nl_94, nl_97, nl_98, nl_100, nl_110, nl_122, nl_130, nl_144, nl_160, nl_240, nl_241, nl_255, nl_256, nl_400, nl_800, nl_900, nl_999, nl_1000, nl_1001, nl_1024, nl_1103, nl_1928, nl_4321, nl_5560, nl_12345, nl_1000000, nl_1000003, nl_252645135, nl_858993459, nl_1431655765, nl_1000000000, nI_add, pk_mul, n_sub, n_neg, n_cl, leT, leF, ltT, ltF, eqT, eqF, kbT, s_II, s_In, s_IJ, s_IA, s_IL, s_IR, s_IC, s_JI, s_JJ, s_Jn, s_JA, s_JL, s_JR, s_JC, s_AI, s_AJ, s_AA, s_An, s_AL, s_AR, s_AC, s_LI, s_LJ, s_LA, s_LL, s_Ln, s_LR, s_LC, hz1, hz2, k66, a1, f_X12_findMosts_158]
      · have es2 : mxF (fun x => decide (x * l ≤ m)) (fun x => x * wd + a x) (h + 1) = mxF (fun x => decide (x * l ≤ m)) (fun x => x * wd + a x) h := es.trans (if_neg (fun z => c2 z.2))
        rw [← ih f (h + 1) (by omega) (by omega), es2, f_X12_findMosts_92]
        generalize mxF (fun x => decide (x * l ≤ m)) (fun x => x * wd + a x) h = y at *
        generalize hz1 : h * l = z1 at *
        generalize hz2 : h * wd = z2 at *
        simp (disch := omega) only [k_let, Option.bind_some, ↓reduceIte, eq_self, true_or, or_true, n01_0, n01_1, kb_or, kb_0T, kb_0F, vn_0, vn_1, vn_k, nl_0, nl_1, nl_2, nl_3, nl_4, nl_5, nl_6, nl_7, nl_8, nl_9, nl_10, nl_11, nl_12, nl_13, nl_14, nl_15, nl_16, nl_20, nl_21, nl_22, nl_23, nl_24, nl_25, nl_26, nl_27, nl_28, nl_29, nl_30, nl_31, nl_32, nl_40, nl_41, nl_42, nl_43, nl_45, nl_47, nl_48, nl_50, nl_57, nl_59, nl_60, nl_61, nl_62, nl_63, nl_64, nl_91, nl_93, nl_94, nl_97, nl_98, nl_100, nl_110, nl_122, nl_130, nl_144, nl_160, nl_240, nl_241, nl_255, nl_256, nl_400, nl_800, nl_900, nl_999, nl_1000, nl_1001, nl_1024, nl_1103, nl_1928, nl_4321, nl_5560, nl_12345, nl_1000000, nl_1000003, nl_252645135, nl_858993459, nl_1431655765, nl_1000000000, nI_add, pk_mul, n_sub, n_neg, n_cl, leT, leF, ltT, ltF, eqT, eqF, kbT, s_II, s_In, s_IJ, s_IA, s_IL, s_IR, s_IC, s_JI, s_JJ, s_Jn, s_JA, s_JL, s_JR, s_JC, s_AI, s_AJ, s_AA, s_An, s_AL, s_AR, s_AC, s_LI, s_LJ, s_LA, s_LL, s_Ln, s_LR, s_LC, hz1, hz2, k66, a1, f_X12_findMosts_158]
    · have st := mxF_stop (ok := fun x => decide (x * l ≤ m)) (q := fun x => x * wd + a x) (a := h) (fun y hy => decide_eq_false (by have := Nat.mul_le_mul_right l hy; omega)) (H + 1) (by omega)
      rw [st, f_X12_findMosts_92]
      generalize hz1 : h * l = z1 at *
      simp (disch := omega) only [k_let, Option.bind_some, ↓reduceIte, eq_self, true_or, or_true, n01_0, n01_1, kb_or, kb_0T, kb_0F, vn_0, vn_1, vn_k, nl_0, nl_1, nl_2, nl_3, nl_4, nl_5, nl_6, nl_7, nl_8, nl_9, nl_10, nl_11, nl_12, nl_13, nl_14, nl_15, nl_16, nl_20, nl_21, nl_22, nl_23, nl_24, nl_25, nl_26, nl_27, nl_28, nl_29, nl_30, nl_31, nl_32, nl_40, nl_41, nl_42, nl_43, nl_45, nl_47, nl_48, nl_50, nl_57, nl_59, nl_60, nl_61, nl_62, nl_63, nl_64, nl_91, nl_93, nl_94, nl_97, nl_98, nl_100, nl_110, nl_122, nl_130, nl_144, nl_160, nl_240, nl_241, nl_255, nl_256, nl_400, nl_800, nl_900, nl_999, nl_1000, nl_1001, nl_1024, nl_1103, nl_1928, nl_4321, nl_5560, nl_12345, nl_1000000, nl_1000003, nl_252645135, nl_858993459, nl_1431655765, nl_1000000000, nI_add, pk_mul, n_sub, n_neg, n_cl, leT, leF, ltT, ltF, eqT, eqF, kbT, s_II, s_In, s_IJ, s_IA, s_IL, s_IR, s_IC, s_JI, s_JJ, s_Jn, s_JA, s_JL, s_JR, s_JC, s_AI, s_AJ, s_AA, s_An, s_AL, s_AR, s_AC, s_LI, s_LJ, s_LA, s_LL, s_Ln, s_LR, s_LC, hz1]
/-- the table's rows from debt d on are the numbers mwF -/
def Tm (r : Nat → Int32) (V : Nat → Vd) (h s M d : Nat) (U : St) : Prop := ∀ e, d ≤ e → e ≤ nD r → ∀ m, m ≤ M → gA U 74 (241 * e + m) = nI (mwF r V h s (nD r - e) m)
theorem l_m80 {r : Nat → Int32} {V : Nat → Vd} {S : St} (hQ : Qm r V S) {h s M d : Nat} {x1 x2 : Int32} (K : Int32 → Int32 → Int32 → Int32 → St → Option St) (hd : d < nD r) (hM : M ≤ 240) : ∀ (j f m : Nat) (U : St), m + j = M + 1 → j < f → Fr [] [] [74] [] S U → Tm r V h s M (d + 1) U → (∀ m', m' < m → gA U 74 (241 * d + m') = nI (mwF r V h s (nD r - d) m')) →
    ∃ W, f_X12_findMosts_80 K f x1 x2 (nI M) (nI d) (nI (dLn r d)) (nI (hsF r V h s d)) (nI m) U = K x1 x2 (nI M) (dnN d) W ∧ Fr [] [] [74] [] S W ∧ Tm r V h s M d W := by
  have w := hQ.1.1
  have h16 := w.n16
  obtain ⟨-, l1, l2⟩ := w.ln hd
  have H9 : hsF r V h s d ≤ 9 := Nat.le_trans hsF_le (cap_9 w V h d)
  have v9 := hQ.2.2 d hd
  intro j
  induction j with
  | zero =>
    intro f m U hm hf hF hT hR
    obtain ⟨f, rfl⟩ : ∃ g, f = g + 1 := ⟨f - 1, by omega⟩
    have : m = M + 1 := by omega
    subst this
    refine ⟨U, ?_, hF, fun e h1 h2 m hm => ?_⟩
    · rw [f_X12_findMosts_80]
      simp (disch := omega) only [k_let, Option.bind_some, ↓reduceIte, eq_self, true_or, or_true, n01_0, n01_1, kb_or, kb_0T, kb_0F, vn_0, vn_1, vn_k, nl_0, nl_1, nl_2, nl_3, nl_4, nl_5, nl_6, nl_7, nl_8, nl_9, nl_10, nl_11, nl_12, nl_13, nl_14, nl_15, nl_16, nl_20, nl_21, nl_22, nl_23, nl_24, nl_25, nl_26, nl_27, nl_28, nl_29, nl_30, nl_31, nl_32, nl_40, nl_41, nl_42, nl_43, nl_45, nl_47, nl_48, nl_50, nl_57, nl_59, nl_60, nl_61, nl_62, nl_63, nl_64, nl_91, nl_93, nl_94, nl_97, nl_98, nl_100, nl_110, nl_122, nl_130, nl_144, nl_160, nl_240, nl_241, nl_255, nl_256, nl_400, nl_800, nl_900, nl_999, nl_1000, nl_1001, nl_1024, nl_1103, nl_1928, nl_4321, nl_5560, nl_12345, nl_1000000, nl_1000003, nl_252645135, nl_858993459, nl_1431655765, nl_1000000000, nI_add, pk_mul, n_sub, n_neg, n_cl, leT, leF, ltT, ltF, eqT, eqF, kbT, s_II, s_In, s_IJ, s_IA, s_IL, s_IR, s_IC, s_JI, s_JJ, s_Jn, s_JA, s_JL, s_JR, s_JC, s_AI, s_AJ, s_AA, s_An, s_AL, s_AR, s_AC, s_LI, s_LJ, s_LA, s_LL, s_Ln, s_LR, s_LC, n_dnN]
    · by_cases q : e = d
      · rw [q]; exact hR m (by omega)
      · exact hT e (by omega) h2 m hm
  | succ j ih =>
    intro f m U hm hf hF hT hR
    obtain ⟨f, rfl⟩ : ∃ g, f = g + 1 := ⟨f - 1, by omega⟩
    have k66 : gA U 66 d = nI (V d).1 := by rw [hF.A (k := 66) rfl]; exact (hQ.2.1 d hd).1
    have e1 : nD r - (nD r - (d + 1) + 1) = d := by omega
    have e2 : nD r - (d + 1) + 1 = nD r - d := by omega
    have mz : mwF r V h s (nD r - d) m = mxF (fun x => decide (x * dLn r d ≤ m)) (fun x => x * (V d).1 + mwF r V h s (nD r - (d + 1)) (m - x * dLn r d)) (hsF r V h s d + 1) := by
      rw [← e2]
      show mxF (fun x => decide (x * dLn r (nD r - (nD r - (d + 1) + 1)) ≤ m)) (fun x => x * (V (nD r - (nD r - (d + 1) + 1))).1 + mwF r V h s (nD r - (d + 1)) (m - x * dLn r (nD r - (nD r - (d + 1) + 1)))) (hsF r V h s (nD r - (nD r - (d + 1) + 1)) + 1) = _
      rw [e1]
    have k92 := l_m92 (U := U) (d := d) (m := m) (l := dLn r d) (wd := (V d).1) (H := hsF r V h s d) (a := fun x => mwF r V h s (nD r - (d + 1)) (m - x * dLn r d)) (x1 := x1) (x2 := x2) (x3 := nI M) (f_X12_findMosts_80 K f) (by omega) (by omega) H9 (by omega) v9 k66 (fun x hx => by
      refine ⟨?_, ?_⟩
      · rw [show 241 * (d + 1) + m - x * dLn r d = 241 * (d + 1) + (m - x * dLn r d) by omega]
        exact hT (d + 1) (Nat.le_refl _) hd _ (by omega)
      · have := mwF_bd w hQ.2.2 h s (nD r - (d + 1)) (m - x * dLn r d) (by omega)
        show mwF r V h s (nD r - (d + 1)) (m - x * dLn r d) ≤ 200000
        omega) (hsF r V h s d + 1) FU 0 (by omega) (FU_ge (by omega))
    rw [← mz] at k92
    obtain ⟨W, w1, w2, w3⟩ := ih f (m + 1) (sA U 74 (241 * d + m) (nI (mwF r V h s (nD r - d) m))) (by omega) (by omega) (hF.sA rfl _ _) (fun e h1 h2 m' hm' => by
      rw [s_AA, u_n (by omega)]; exact hT e h1 h2 m' hm') (fun m' hm' => by
      rw [s_AA, u_a]
      by_cases q : m' = m
      · rw [q, if_pos rfl]
      · rw [if_neg (by omega)]; exact hR m' (by omega))
    refine ⟨W, ?_, w2, w3⟩
    have k92' : f_X12_findMosts_92 (f_X12_findMosts_80 K f) FU x1 x2 (nI M) (nI d) (nI (dLn r d)) (nI (hsF r V h s d)) (nI m) (0 : Int32) (0 : Int32) U = f_X12_findMosts_166 (f_X12_findMosts_80 K f) x1 x2 (nI M) (nI d) (nI (dLn r d)) (nI (hsF r V h s d)) (nI m) (nI (mwF r V h s (nD r - d) m)) U := k92
    rw [← w1, f_X12_findMosts_80, k92']
    simp (disch := omega) only [k_let, Option.bind_some, ↓reduceIte, eq_self, true_or, or_true, n01_0, n01_1, kb_or, kb_0T, kb_0F, vn_0, vn_1, vn_k, nl_0, nl_1, nl_2, nl_3, nl_4, nl_5, nl_6, nl_7, nl_8, nl_9, nl_10, nl_11, nl_12, nl_13, nl_14, nl_15, nl_16, nl_20, nl_21, nl_22, nl_23, nl_24, nl_25, nl_26, nl_27, nl_28, nl_29, nl_30, nl_31, nl_32, nl_40, nl_41, nl_42, nl_43, nl_45, nl_47, nl_48, nl_50, nl_57, nl_59, nl_60, nl_61, nl_62, nl_63, nl_64, nl_91, nl_93, nl_94, nl_97, nl_98, nl_100, nl_110, nl_122, nl_130, nl_144, nl_160, nl_240, nl_241, nl_255, nl_256, nl_400, nl_800, nl_900, nl_999, nl_1000, nl_1001, nl_1024, nl_1103, nl_1928, nl_4321, nl_5560, nl_12345, nl_1000000, nl_1000003, nl_252645135, nl_858993459, nl_1431655765, nl_1000000000, nI_add, pk_mul, n_sub, n_neg, n_cl, leT, leF, ltT, ltF, eqT, eqF, kbT, s_II, s_In, s_IJ, s_IA, s_IL, s_IR, s_IC, s_JI, s_JJ, s_Jn, s_JA, s_JL, s_JR, s_JC, s_AI, s_AJ, s_AA, s_An, s_AL, s_AR, s_AC, s_LI, s_LJ, s_LA, s_LL, s_Ln, s_LR, s_LC, f_X12_findMosts_166]
theorem l_m40 {r : Nat → Int32} {V : Nat → Vd} {S : St} (hQ : Qm r V S) {h s M : Nat} (hh : h < 8) (hs : s < 256) (hM : M ≤ 240) : ∀ (k f : Nat) (U : St), k ≤ nD r → k < f → Fr [] [] [74] [] S U → Tm r V h s M k U →
    ∃ W, f_X12_findMosts_40 f (nI h) (nI s) (nI M) (dnN k) U = some W ∧ Fr [] [] [74] [] S W ∧ Tm r V h s M 0 W := by
  have w := hQ.1.1
  have h16 := w.n16
  intro k
  induction k with
  | zero =>
    intro f U hk hf hF hT
    obtain ⟨f, rfl⟩ : ∃ g, f = g + 1 := ⟨f - 1, by omega⟩
    refine ⟨U, ?_, hF, hT⟩
    rw [f_X12_findMosts_40, if_pos (show dnN 0 < 0 by decide)]
  | succ k ih =>
    intro f U hk hf hF hT
    obtain ⟨f, rfl⟩ : ∃ g, f = g + 1 := ⟨f - 1, by omega⟩
    have hU := hQ.fr hF rfl rfl rfl rfl
    have hkn : k < nD r := by omega
    have pl := e_m_ln hU.1 hkn
    have pp := e_isP hU hh hs hkn
    have p3 : f_X12_ofDebt (nI k) (nI 3) U = some (nI (dHa r k), U) := e_m_ha hU.1 hkn
    obtain ⟨X, x1, x2, x3⟩ := l_m80 (x1 := nI h) (x2 := nI s) hQ (f_X12_findMosts_40 f) hkn hM (M + 1) FU 0 U (by omega) (FU_ge (by omega)) hF hT (fun m' hm' => absurd hm' (Nat.not_lt_zero _))
    obtain ⟨W, w1, w2, w3⟩ := ih f X (by omega) (by omega) x2 x3
    refine ⟨W, ?_, w2, w3⟩
    rw [← w1, ← x1, f_X12_findMosts_40]
    show (if nI k < 0 then _ else _) = _
    by_cases c : (plB r V h k && s.testBit (dOw r k)) = true
    · have hc : hsF r V h s k = dHa r k := by
        rw [Bool.and_eq_true] at c
        unfold hsF
        rw [if_pos c.2]
        exact if_pos ⟨hkn, c.1⟩
      rw [c, kB_t] at pp
      rw [hc]
      simp (disch := omega) only [k_let, Option.bind_some, ↓reduceIte, eq_self, true_or, or_true, n01_0, n01_1, kb_or, kb_0T, kb_0F, vn_0, vn_1, vn_k, nl_0, nl_1, nl_2, nl_3, nl_4, nl_5, nl_6, nl_7, nl_8, nl_9, nl_10, nl_11, nl_12, nl_13, nl_14, nl_15, nl_16, nl_20, nl_21, nl_22, nl_23, nl_24, nl_25, nl_26, nl_27, nl_28, nl_29, nl_30, nl_31, nl_32, nl_40, nl_41, nl_42, nl_43, nl_45, nl_47, nl_48, nl_50, nl_57, nl_59, nl_60, nl_61, nl_62, nl_63, nl_64, nl_91, nl_93, nl_94, nl_97, nl_98, nl_100, nl_110, nl_122, nl_130, nl_144, nl_160, nl_240, nl_241, nl_255, nl_256, nl_400, nl_800, nl_900, nl_999, nl_1000, nl_1001, nl_1024, nl_1103, nl_1928, nl_4321, nl_5560, nl_12345, nl_1000000, nl_1000003, nl_252645135, nl_858993459, nl_1431655765, nl_1000000000, nI_add, pk_mul, n_sub, n_neg, n_cl, leT, leF, ltT, ltF, eqT, eqF, kbT, s_II, s_In, s_IJ, s_IA, s_IL, s_IR, s_IC, s_JI, s_JJ, s_Jn, s_JA, s_JL, s_JR, s_JC, s_AI, s_AJ, s_AA, s_An, s_AL, s_AR, s_AC, s_LI, s_LJ, s_LA, s_LL, s_Ln, s_LR, s_LC, dnN, ↓b_of pl, ↓b_of pp, ↓b_of p3, f_X12_findMosts_75]
    · have hc : hsF r V h s k = 0 := by
        unfold hsF
        by_cases z : s.testBit (dOw r k) = true
        · rw [if_pos z]
          refine if_neg (fun y => c ?_)
          rw [y.2, z]; rfl
        · rw [if_neg z]
      rw [Bool.not_eq_true] at c
      rw [c, kB_f] at pp
      rw [hc]
      simp (disch := omega) only [k_let, Option.bind_some, ↓reduceIte, eq_self, true_or, or_true, n01_0, n01_1, kb_or, kb_0T, kb_0F, vn_0, vn_1, vn_k, nl_0, nl_1, nl_2, nl_3, nl_4, nl_5, nl_6, nl_7, nl_8, nl_9, nl_10, nl_11, nl_12, nl_13, nl_14, nl_15, nl_16, nl_20, nl_21, nl_22, nl_23, nl_24, nl_25, nl_26, nl_27, nl_28, nl_29, nl_30, nl_31, nl_32, nl_40, nl_41, nl_42, nl_43, nl_45, nl_47, nl_48, nl_50, nl_57, nl_59, nl_60, nl_61, nl_62, nl_63, nl_64, nl_91, nl_93, nl_94, nl_97, nl_98, nl_100, nl_110, nl_122, nl_130, nl_144, nl_160, nl_240, nl_241, nl_255, nl_256, nl_400, nl_800, nl_900, nl_999, nl_1000, nl_1001, nl_1024, nl_1103, nl_1928, nl_4321, nl_5560, nl_12345, nl_1000000, nl_1000003, nl_252645135, nl_858993459, nl_1431655765, nl_1000000000, nI_add, pk_mul, n_sub, n_neg, n_cl, leT, leF, ltT, ltF, eqT, eqF, kbT, s_II, s_In, s_IJ, s_IA, s_IL, s_IR, s_IC, s_JI, s_JJ, s_Jn, s_JA, s_JL, s_JR, s_JC, s_AI, s_AJ, s_AA, s_An, s_AL, s_AR, s_AC, s_LI, s_LJ, s_LA, s_LL, s_Ln, s_LR, s_LC, dnN, ↓b_of pl, ↓b_of pp, f_X12_findMosts_75]
theorem e_mosts {r : Nat → Int32} {V : Nat → Vd} {S : St} (hQ : Qm r V S) {h s M : Nat} (hh : h < 8) (hs : s < 256) (hM : M ≤ 240) : ∃ W, f_X12_findMosts (nI h) (nI s) (nI M) S = some W ∧ Fr [] [] [74] [] S W ∧ Tm r V h s M 0 W := by
  have w := hQ.1.1
  have h16 := w.n16
  have key : ∀ (j f m : Nat) (U : St), m + j = M + 1 → j < f → Fr [] [] [74] [] S U → (∀ m', m' < m → gA U 74 (241 * nD r + m') = nI 0) → ∃ W, f_X12_findMosts_3 f (nI h) (nI s) (nI M) (nI m) U = some W ∧ Fr [] [] [74] [] S W ∧ Tm r V h s M 0 W := by
    intro j
    induction j with
    | zero =>
      intro f m U hm hf hF hR
      obtain ⟨f, rfl⟩ : ∃ g, f = g + 1 := ⟨f - 1, by omega⟩
      have pn := e_m_n (hQ.fr hF rfl rfl rfl rfl).1
      obtain ⟨W, w1, w2, w3⟩ := l_m40 hQ hh hs hM (nD r) FU U (Nat.le_refl _) (FU_ge (by omega)) hF (fun e h1 h2 m' hm' => by
        have : e = nD r := by omega
        rw [this, Nat.sub_self]; exact hR m' (by omega))
      refine ⟨W, ?_, w2, w3⟩
      rw [← w1, f_X12_findMosts_3]
      simp (disch := omega) only [k_let, Option.bind_some, ↓reduceIte, eq_self, true_or, or_true, n01_0, n01_1, kb_or, kb_0T, kb_0F, vn_0, vn_1, vn_k, nl_0, nl_1, nl_2, nl_3, nl_4, nl_5, nl_6, nl_7, nl_8, nl_9, nl_10, nl_11, nl_12, nl_13, nl_14, nl_15, nl_16, nl_20, nl_21, nl_22, nl_23, nl_24, nl_25, nl_26, nl_27, nl_28, nl_29, nl_30, nl_31, nl_32, nl_40, nl_41, nl_42, nl_43, nl_45, nl_47, nl_48, nl_50, nl_57, nl_59, nl_60, nl_61, nl_62, nl_63, nl_64, nl_91, nl_93, nl_94, nl_97, nl_98, nl_100, nl_110, nl_122, nl_130, nl_144, nl_160, nl_240, nl_241, nl_255, nl_256, nl_400, nl_800, nl_900, nl_999, nl_1000, nl_1001, nl_1024, nl_1103, nl_1928, nl_4321, nl_5560, nl_12345, nl_1000000, nl_1000003, nl_252645135, nl_858993459, nl_1431655765, nl_1000000000, leT, leF, ltT, ltF, eqT, eqF, kbT, ↓b_of pn, n_dnS]
    | succ j ih =>
      intro f m U hm hf hF hR
      obtain ⟨f, rfl⟩ : ∃ g, f = g + 1 := ⟨f - 1, by omega⟩
      have pn := e_m_n (hQ.fr hF rfl rfl rfl rfl).1
      obtain ⟨W, w1, w2, w3⟩ := ih f (m + 1) (sA U 74 (241 * nD r + m) (nI 0)) (by omega) (by omega) (hF.sA rfl _ _) (fun m' hm' => by
        rw [s_AA, u_a]
        by_cases q : m' = m
        · rw [q, if_pos rfl]
        · rw [if_neg (by omega)]; exact hR m' (by omega))
      refine ⟨W, ?_, w2, w3⟩
      rw [← w1, f_X12_findMosts_3]
      simp (disch := omega) only [k_let, Option.bind_some, ↓reduceIte, eq_self, true_or, or_true, n01_0, n01_1, kb_or, kb_0T, kb_0F, vn_0, vn_1, vn_k, nl_0, nl_1, nl_2, nl_3, nl_4, nl_5, nl_6, nl_7, nl_8, nl_9, nl_10, nl_11, nl_12, nl_13, nl_14, nl_15, nl_16, nl_20, nl_21, nl_22, nl_23, nl_24, nl_25, nl_26, nl_27, nl_28, nl_29, nl_30, nl_31, nl_32, nl_40, nl_41, nl_42, nl_43, nl_45, nl_47, nl_48, nl_50, nl_57, nl_59, nl_60, nl_61, nl_62, nl_63, nl_64, nl_91, nl_93, nl_94, nl_97, nl_98, nl_100, nl_110, nl_122, nl_130, nl_144, nl_160, nl_240, nl_241, nl_255, nl_256, nl_400, nl_800, nl_900, nl_999, nl_1000, nl_1001, nl_1024, nl_1103, nl_1928, nl_4321, nl_5560, nl_12345, nl_1000000, nl_1000003, nl_252645135, nl_858993459, nl_1431655765, nl_1000000000, nI_add, pk_mul, n_sub, n_neg, n_cl, leT, leF, ltT, ltF, eqT, eqF, kbT, s_II, s_In, s_IJ, s_IA, s_IL, s_IR, s_IC, s_JI, s_JJ, s_Jn, s_JA, s_JL, s_JR, s_JC, s_AI, s_AJ, s_AA, s_An, s_AL, s_AR, s_AC, s_LI, s_LJ, s_LA, s_LL, s_Ln, s_LR, s_LC, ↓b_of pn]
  exact key (M + 1) FU 0 S (by omega) (FU_ge (by omega)) (Fr.refl S) (fun m' hm' => absurd hm' (Nat.not_lt_zero _))
