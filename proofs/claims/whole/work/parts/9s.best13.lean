/-! part 9s: best: the reference finds it -/
theorem Tm.m {r : Nat → Int32} {V : Nat → Vd} {h s M : Nat} {U : St} (t : Tm r V h s M 0 U) {m : Nat} (hm : m ≤ M) : gA U 74 m = nI (mwF r V h s (nD r) m) := by
  have := t 0 (Nat.le_refl _) (Nat.zero_le _) m hm
  rwa [Nat.mul_zero, Nat.zero_add, Nat.sub_zero] at this
theorem l_162 {r : Nat → Int32} {V : Nat → Vd} {U : St} (hQ : Qm r V U) {h s M m d : Nat} (hM : M ≤ 240) (hm : m ≤ M) (hT : Tm r V h s M 0 U) (hd : d < nD r) {c : Nat} (c9 : c ≤ 9) (pc : pB r V h s d m c = true) (pn : ∀ y, y < c → pB r V h s d m y = false) (K : Int32 → Int32 → St → Option St) : ∀ (j f x : Nat), x + j = c → j < f →
    f_X12_findBest_162 K f (nI m) (nI d) (nI x) U = K (nI (m - c * dLn r d)) (nI (d + 1)) (sA U 75 d (nI c)) := by
  have w := hQ.1.1
  have h16 := w.n16
  have pl : f_X12_lengthOf (nI d) U = some (nI (dLn r d), U) := e_m_ln hQ.1 hd
  have k66 := (hQ.2.1 d hd).1
  have v9 := hQ.2.2 d hd
  obtain ⟨-, l1, l2⟩ := w.ln hd
  have ra := hT d (Nat.zero_le _) (by omega) m hm
  have rb := fun x (hx : x * dLn r d ≤ m) => hT (d + 1) (Nat.zero_le _) hd (m - x * dLn r d) (by omega)
  have ba := mwF_bd w hQ.2.2 h s (nD r - d) m (by omega)
  have bb := fun x => mwF_bd w hQ.2.2 h s (nD r - (d + 1)) (m - x * dLn r d) (by omega)
  intro j
  induction j with
  | zero =>
    intro f x hx hf
    obtain ⟨f, rfl⟩ : ∃ g, f = g + 1 := ⟨f - 1, by omega⟩
    have : x = c := by omega
    subst this
    unfold pB at pc
    obtain ⟨p1, p2⟩ := of_decide_eq_true pc
    have r1 := rb x p1
    have b1 := bb x
    have b2 := Nat.mul_le_mul c9 v9
    have b3 := Nat.mul_le_mul c9 (show dLn r d ≤ 30 by omega)
    have pl2 : f_X12_lengthOf (nI d) (sA U 75 d (nI x)) = some (nI (dLn r d), sA U 75 d (nI x)) := e_m_ln (S := sA U 75 d (nI x)) ⟨w, hQ.1.2⟩ hd
    rw [f_X12_findBest_162]
    generalize mwF r V h s (nD r - (d + 1)) (m - x * dLn r d) = y1 at *
    generalize mwF r V h s (nD r - d) m = y2 at *
    generalize hz1 : x * dLn r d = z1 at *
    generalize hz2 : x * (V d).1 = z2 at *
    rw [show 241 * (d + 1) + (m - z1) = 241 * (d + 1) + m - z1 by omega] at r1
    simp (disch := omega) only [k_let, Option.bind_some, ↓reduceIte, eq_self, true_or, or_true, n01_0, n01_1, kb_or, kb_0T, kb_0F, vn_0, vn_1, vn_k, nl_0, nl_1, nl_2, nl_3, nl_4, nl_5, nl_6, nl_7, nl_8, nl_9, nl_10, nl_11, nl_12, nl_13, nl_14, nl_15, nl_16, nl_20, nl_21, nl_22, nl_23, nl_24, nl_25, nl_26, nl_27, nl_28, nl_29, nl_30, nl_31, nl_32, nl_40, nl_41, nl_42, nl_43, nl_45, nl_47, nl_48, nl_50, nl_57, nl_59, nl_60, nl_61, nl_62, nl_63, nl_64, nl_91, nl_93, nl_94, nl_97, nl_98, nl_100, nl_110, nl_122, nl_130, nl_144, nl_160, nl_240, nl_241, nl_255, nl_256, nl_400, nl_800, nl_900, nl_999, nl_1000, nl_1001, nl_1024, nl_1103, nl_1928, nl_4321, nl_5560, nl_12345, nl_1000000, nl_1000003, nl_252645135, nl_858993459, nl_1431655765, nl_1000000000, nI_add, pk_mul, n_sub, n_neg, n_cl, leT, leF, ltT, ltF, eqT, eqF, kbT, s_II, s_In, s_IJ, s_IA, s_IL, s_IR, s_IC, s_JI, s_JJ, s_Jn, s_JA, s_JL, s_JR, s_JC, s_AI, s_AJ, s_AA, s_An, s_AL, s_AR, s_AC, s_LI, s_LJ, s_LA, s_LL, s_Ln, s_LR, s_LC, ↓b_of pl, hz1, hz2, k66, r1, ra, p2, ↓b_of pl2]
  | succ j ih =>
    intro f x hx hf
    obtain ⟨f, rfl⟩ : ∃ g, f = g + 1 := ⟨f - 1, by omega⟩
    have px := pn x (by omega)
    unfold pB at px
    rw [decide_eq_false_iff_not] at px
    have b1 := bb x
    have b2 := Nat.mul_le_mul (show x ≤ 9 by omega) v9
    have b3 := Nat.mul_le_mul (show x ≤ 9 by omega) (show dLn r d ≤ 30 by omega)
    rw [← ih f (x + 1) (by omega) (by omega), f_X12_findBest_162]
    by_cases q : x * dLn r d ≤ m
    · have r1 := rb x q
      have ne : x * (V d).1 + mwF r V h s (nD r - (d + 1)) (m - x * dLn r d) ≠ mwF r V h s (nD r - d) m := fun z => px ⟨q, z⟩
      generalize mwF r V h s (nD r - (d + 1)) (m - x * dLn r d) = y1 at *
      generalize mwF r V h s (nD r - d) m = y2 at *
      generalize hz1 : x * dLn r d = z1 at *
      generalize hz2 : x * (V d).1 = z2 at *
      rw [show 241 * (d + 1) + (m - z1) = 241 * (d + 1) + m - z1 by omega] at r1
      simp (disch := omega) only [k_let, Option.bind_some, ↓reduceIte, eq_self, true_or, or_true, n01_0, n01_1, kb_or, kb_0T, kb_0F, vn_0, vn_1, vn_k, nl_0, nl_1, nl_2, nl_3, nl_4, nl_5, nl_6, nl_7, nl_8, nl_9, nl_10, nl_11, nl_12, nl_13, nl_14, nl_15, nl_16, nl_20, nl_21, nl_22, nl_23, nl_24, nl_25, nl_26, nl_27, nl_28, nl_29, nl_30, nl_31, nl_32, nl_40, nl_41, nl_42, nl_43, nl_45, nl_47, nl_48, nl_50, nl_57, nl_59, nl_60, nl_61, nl_62, nl_63, nl_64, nl_91, nl_93, nl_94, nl_97, nl_98, nl_100, nl_110, nl_122, nl_130, nl_144, nl_160, nl_240, nl_241, nl_255, nl_256, nl_400, nl_800, nl_900, nl_999, nl_1000, nl_1001, nl_1024, nl_1103, nl_1928, nl_4321, nl_5560, nl_12345, nl_1000000, nl_1000003, nl_252645135, nl_858993459, nl_1431655765, nl_1000000000, nI_add, pk_mul, n_sub, n_neg, n_cl, leT, leF, ltT, ltF, eqT, eqF, kbT, s_II, s_In, s_IJ, s_IA, s_IL, s_IR, s_IC, s_JI, s_JJ, s_Jn, s_JA, s_JL, s_JR, s_JC, s_AI, s_AJ, s_AA, s_An, s_AL, s_AR, s_AC, s_LI, s_LJ, s_LA, s_LL, s_Ln, s_LR, s_LC, ↓b_of pl, hz1, hz2, k66, r1, ra, f_X12_findBest_230]
    · generalize hz1 : x * dLn r d = z1 at *
      simp (disch := omega) only [k_let, Option.bind_some, ↓reduceIte, eq_self, true_or, or_true, n01_0, n01_1, kb_or, kb_0T, kb_0F, vn_0, vn_1, vn_k, nl_0, nl_1, nl_2, nl_3, nl_4, nl_5, nl_6, nl_7, nl_8, nl_9, nl_10, nl_11, nl_12, nl_13, nl_14, nl_15, nl_16, nl_20, nl_21, nl_22, nl_23, nl_24, nl_25, nl_26, nl_27, nl_28, nl_29, nl_30, nl_31, nl_32, nl_40, nl_41, nl_42, nl_43, nl_45, nl_47, nl_48, nl_50, nl_57, nl_59, nl_60, nl_61, nl_62, nl_63, nl_64, nl_91, nl_93, nl_94, nl_97, nl_98, nl_100, nl_110, nl_122, nl_130, nl_144, nl_160, nl_240, nl_241, nl_255, nl_256, nl_400, nl_800, nl_900, nl_999, nl_1000, nl_1001, nl_1024, nl_1103, nl_1928, nl_4321, nl_5560, nl_12345, nl_1000000, nl_1000003, nl_252645135, nl_858993459, nl_1431655765, nl_1000000000, nI_add, pk_mul, n_sub, n_neg, n_cl, leT, leF, ltT, ltF, eqT, eqF, kbT, s_II, s_In, s_IJ, s_IA, s_IL, s_IR, s_IC, s_JI, s_JJ, s_Jn, s_JA, s_JL, s_JR, s_JC, s_AI, s_AJ, s_AA, s_An, s_AL, s_AR, s_AC, s_LI, s_LJ, s_LA, s_LL, s_Ln, s_LR, s_LC, ↓b_of pl, hz1, f_X12_findBest_230]
theorem lfG_le (r : Nat → Int32) (V : Nat → Vd) (h s m0 : Nat) : ∀ d, lfG r V h s m0 d ≤ m0 := by
  intro d
  induction d with
  | zero => exact Nat.le_refl _
  | succ d ih => exact Nat.le_trans (Nat.sub_le _ _) ih
theorem l_b150 {r : Nat → Int32} {V : Nat → Vd} {S : St} (hQ : Qm r V S) {h s M m0 : Nat} (hM : M ≤ 240) (hm : m0 ≤ M) (hT : Tm r V h s M 0 S) : ∀ (k f d : Nat) (U : St), d + k = nD r → k < f → Fr [] [] [75] [] S U → (∀ e, e < d → gA U 75 e = nI (cG r V h s m0 e)) →
    ∃ W, f_X12_findBest_150 f (nI (lfG r V h s m0 d)) (nI d) U = some W ∧ Fr [] [] [75] [] S W ∧ ∀ e, e < nD r → gA W 75 e = nI (cG r V h s m0 e) := by
  have w := hQ.1.1
  have h16 := w.n16
  intro k
  induction k with
  | zero =>
    intro f d U hd hf hF hR
    obtain ⟨f, rfl⟩ : ∃ g, f = g + 1 := ⟨f - 1, by omega⟩
    have : d = nD r := by omega
    subst this
    have pn := e_m_n (hQ.fr hF rfl rfl rfl rfl).1
    refine ⟨U, ?_, hF, hR⟩
    rw [f_X12_findBest_150]
    simp (disch := omega) only [k_let, Option.bind_some, ↓reduceIte, eq_self, true_or, or_true, n01_0, n01_1, kb_or, kb_0T, kb_0F, vn_0, vn_1, vn_k, nl_0, nl_1, nl_2, nl_3, nl_4, nl_5, nl_6, nl_7, nl_8, nl_9, nl_10, nl_11, nl_12, nl_13, nl_14, nl_15, nl_16, nl_20, nl_21, nl_22, nl_23, nl_24, nl_25, nl_26, nl_27, nl_28, nl_29, nl_30, nl_31, nl_32, nl_40, nl_41, nl_42, nl_43, nl_45, nl_47, nl_48, nl_50, nl_57, nl_59, nl_60, nl_61, nl_62, nl_63, nl_64, nl_91, nl_93, nl_94, nl_97, nl_98, nl_100, nl_110, nl_122, nl_130, nl_144, nl_160, nl_240, nl_241, nl_255, nl_256, nl_400, nl_800, nl_900, nl_999, nl_1000, nl_1001, nl_1024, nl_1103, nl_1928, nl_4321, nl_5560, nl_12345, nl_1000000, nl_1000003, nl_252645135, nl_858993459, nl_1431655765, nl_1000000000, nI_add, pk_mul, n_sub, n_neg, n_cl, leT, leF, ltT, ltF, eqT, eqF, kbT, s_II, s_In, s_IJ, s_IA, s_IL, s_IR, s_IC, s_JI, s_JJ, s_Jn, s_JA, s_JL, s_JR, s_JC, s_AI, s_AJ, s_AA, s_An, s_AL, s_AR, s_AC, s_LI, s_LJ, s_LA, s_LL, s_Ln, s_LR, s_LC, ↓b_of pn]
  | succ k ih =>
    intro f d U hd hf hF hR
    obtain ⟨f, rfl⟩ : ∃ g, f = g + 1 := ⟨f - 1, by omega⟩
    have hdn : d < nD r := by omega
    have hU := hQ.fr hF rfl rfl rfl rfl
    have pn := e_m_n hU.1
    obtain ⟨p1, p2, p3, p4⟩ := cG_p (V := V) w h s m0 hdn
    have c9 := Nat.le_trans (Nat.le_trans p2 hsF_le) (cap_9 w V h d)
    have hTU : Tm r V h s M 0 U := fun e h1 h2 m hm => by rw [hF.A (k := 74) rfl]; exact hT e h1 h2 m hm
    have k1 := l_162 hU hM (Nat.le_trans (lfG_le r V h s m0 d) hm) hTU hdn c9 p1 p3 (f_X12_findBest_150 f) (cG r V h s m0 d) FU 0 (by omega) (FU_ge (by omega))
    rw [← p4] at k1
    obtain ⟨W, w1, w2, w3⟩ := ih f (d + 1) (sA U 75 d (nI (cG r V h s m0 d))) (by omega) (by omega) (hF.sA rfl _ _) (fun e he => by
      rw [s_AA, u_a]
      by_cases q : e = d
      · rw [if_pos q, q]
      · rw [if_neg q]; exact hR e (by omega))
    refine ⟨W, ?_, w2, w3⟩
    have k1' : f_X12_findBest_162 (f_X12_findBest_150 f) FU (nI (lfG r V h s m0 d)) (nI d) (0 : Int32) U = _ := k1
    rw [← w1, ← k1', f_X12_findBest_150]
    simp (disch := omega) only [k_let, Option.bind_some, ↓reduceIte, eq_self, true_or, or_true, n01_0, n01_1, kb_or, kb_0T, kb_0F, vn_0, vn_1, vn_k, leT, leF, ltT, ltF, eqT, eqF, kbT, ↓b_of pn]
theorem l_112 {r : Nat → Int32} {V : Nat → Vd} {S : St} (hQ : Qm r V S) {h s M bw : Nat} (hM : M ≤ 240) (hT : Tm r V h s M 0 S) (hw : mwF r V h s (nD r) M = bw) (h51 : gI S 51 = nI bw) : ∀ (k f m : Nat) (U : St), m + k = M → k < f → Fr [53] [] [] [] S U → gI U 53 = nI m → (∀ m', m' < m → mwF r V h s (nD r) m' < bw) →
    ∃ m0 W, f_X12_findBest_112 f U = f_X12_findBest_150 FU (nI m0) (nI 0) W ∧ Fr [53] [] [] [] S W ∧ gI W 53 = nI m0 ∧ m0 ≤ M ∧ bw ≤ mwF r V h s (nD r) m0 ∧ ∀ m', m' < m0 → mwF r V h s (nD r) m' < bw := by
  have w := hQ.1.1
  have h16 := w.n16
  have bb := fun m => mwF_bd w hQ.2.2 h s (nD r) m (Nat.le_refl _)
  intro k
  induction k with
  | zero =>
    intro f m U hm hf hF h53 hB
    obtain ⟨f, rfl⟩ : ∃ g, f = g + 1 := ⟨f - 1, by omega⟩
    have : m = M := by omega
    subst this
    have k51 : gI U 51 = nI bw := (hF.I (k := 51) rfl).trans h51
    have k74 : gA U 74 m = nI (mwF r V h s (nD r) m) := by rw [hF.A (k := 74) rfl]; exact hT.m (Nat.le_refl _)
    refine ⟨m, U, ?_, hF, h53, Nat.le_refl _, by omega, hB⟩
    have := bb m
    rw [hw] at k74 this
    rw [f_X12_findBest_112]
    simp (disch := omega) only [k_let, Option.bind_some, ↓reduceIte, eq_self, true_or, or_true, n01_0, n01_1, kb_or, kb_0T, kb_0F, vn_0, vn_1, vn_k, leT, leF, ltT, ltF, eqT, eqF, kbT, n_cl, h53, k51, k74]
    rfl
  | succ k ih =>
    intro f m U hm hf hF h53 hB
    obtain ⟨f, rfl⟩ : ∃ g, f = g + 1 := ⟨f - 1, by omega⟩
    have k51 : gI U 51 = nI bw := (hF.I (k := 51) rfl).trans h51
    have k74 : gA U 74 m = nI (mwF r V h s (nD r) m) := by rw [hF.A (k := 74) rfl]; exact hT.m (by omega)
    have b1 := bb m
    have b2 := bb M
    rw [hw] at b2
    by_cases c : bw ≤ mwF r V h s (nD r) m
    · refine ⟨m, U, ?_, hF, h53, by omega, c, hB⟩
      rw [f_X12_findBest_112]
      simp (disch := omega) only [k_let, Option.bind_some, ↓reduceIte, eq_self, true_or, or_true, n01_0, n01_1, kb_or, kb_0T, kb_0F, vn_0, vn_1, vn_k, leT, leF, ltT, ltF, eqT, eqF, kbT, n_cl, h53, k51, k74]
      rfl
    · obtain ⟨m0, W, w1, w2⟩ := ih f (m + 1) (sI U 53 (nI (m + 1))) (by omega) (by omega) (hF.sI rfl _) (s_II _ _ _) (fun m' hm' => by
        by_cases q : m' = m
        · rw [q]; omega
        · exact hB m' (by omega))
      refine ⟨m0, W, ?_, w2⟩
      rw [← w1, f_X12_findBest_112]
      simp (disch := omega) only [k_let, Option.bind_some, ↓reduceIte, eq_self, true_or, or_true, n01_0, n01_1, kb_or, kb_0T, kb_0F, vn_0, vn_1, vn_k, nl_0, nl_1, nl_2, nl_3, nl_4, nl_5, nl_6, nl_7, nl_8, nl_9, nl_10, nl_11, nl_12, nl_13, nl_14, nl_15, nl_16, nl_20, nl_21, nl_22, nl_23, nl_24, nl_25, nl_26, nl_27, nl_28, nl_29, nl_30, nl_31, nl_32, nl_40, nl_41, nl_42, nl_43, nl_45, nl_47, nl_48, nl_50, nl_57, nl_59, nl_60, nl_61, nl_62, nl_63, nl_64, nl_91, nl_93, nl_94, nl_97, nl_98, nl_100, nl_110, nl_122, nl_130, nl_144, nl_160, nl_240, nl_241, nl_255, nl_256, nl_400, nl_800, nl_900, nl_999, nl_1000, nl_1001, nl_1024, nl_1103, nl_1928, nl_4321, nl_5560, nl_12345, nl_1000000, nl_1000003, nl_252645135, nl_858993459, nl_1431655765, nl_1000000000, nI_add, pk_mul, n_sub, n_neg, n_cl, leT, leF, ltT, ltF, eqT, eqF, kbT, s_II, s_In, s_IJ, s_IA, s_IL, s_IR, s_IC, s_JI, s_JJ, s_Jn, s_JA, s_JL, s_JR, s_JC, s_AI, s_AJ, s_AA, s_An, s_AL, s_AR, s_AC, s_LI, s_LJ, s_LA, s_LL, s_Ln, s_LR, s_LC, h53, k51, k74]
/-- what is kept of the sets below t -/
def Kp (r : Nat → Int32) (V : Nat → Vd) (h M B t b bw : Nat) : Prop := b < 256 ∧ b < t ∧ pc16 b ≤ B ∧ mwF r V h b (nD r) M = bw ∧ ∀ u, u < t → pc16 u ≤ B → mwF r V h u (nD r) M < bw ∨ (mwF r V h u (nD r) M = bw ∧ (pc16 b < pc16 u ∨ (pc16 b = pc16 u ∧ b ≤ u)))
theorem l_13 {r : Nat → Int32} {V : Nat → Vd} {S : St} (hQ : Qm r V S) {h M B : Nat} (hh : h < 8) (hM : M ≤ 240) (hB : B ≤ 8) : ∀ (k f t : Nat) (U : St), t + k = 256 → k < f → Fr [51, 52] [] [74] [] S U → (∃ b bw, gI U 51 = nI bw ∧ gI U 52 = nI b ∧ Kp r V h M B t b bw) →
    ∃ b bw W, f_X12_findBest_13 f (nI h) (nI M) (nI B) (nI t) U = f_X12_findBest_13 1 (nI h) (nI M) (nI B) (nI 256) W ∧ Fr [51, 52] [] [74] [] S W ∧ gI W 51 = nI bw ∧ gI W 52 = nI b ∧ Kp r V h M B 256 b bw := by
  have w := hQ.1.1
  have h16 := w.n16
  have bb := fun s => mwF_bd w hQ.2.2 h s (nD r) M (Nat.le_refl _)
  intro k
  induction k with
  | zero =>
    intro f t U ht hf hF hK
    obtain ⟨f, rfl⟩ : ∃ g, f = g + 1 := ⟨f - 1, by omega⟩
    have : t = 256 := by omega
    subst this
    obtain ⟨b, bw, k1, k2, k3⟩ := hK
    refine ⟨b, bw, U, ?_, hF, k1, k2, k3⟩
    rw [f_X12_findBest_13, f_X12_findBest_13]
    rfl
  | succ k ih =>
    intro f t U ht hf hF hK
    obtain ⟨f, rfl⟩ : ∃ g, f = g + 1 := ⟨f - 1, by omega⟩
    obtain ⟨b, bw, k1, k2, k3, k4, k5, k6, k7⟩ := hK
    have p8 := pc_8 t (by omega)
    have p8b := pc_8 b k3
    have pb := e_bits (s := t) (by omega) U
    by_cases c : B < pc16 t
    · obtain ⟨b', bw', W, w1, w2⟩ := ih f (t + 1) U (by omega) (by omega) hF ⟨b, bw, k1, k2, k3, by omega, k5, k6, fun u hu hp => by
        by_cases q : u = t
        · rw [q] at hp; omega
        · exact k7 u (by omega) hp⟩
      refine ⟨b', bw', W, ?_, w2⟩
      rw [← w1]
      show f_X12_findBest_13 (f + 1) _ _ _ _ _ = _
      rw [f_X12_findBest_13]
      simp (disch := omega) only [k_let, Option.bind_some, ↓reduceIte, eq_self, true_or, or_true, n01_0, n01_1, kb_or, kb_0T, kb_0F, vn_0, vn_1, vn_k, nl_0, nl_1, nl_2, nl_3, nl_4, nl_5, nl_6, nl_7, nl_8, nl_9, nl_10, nl_11, nl_12, nl_13, nl_14, nl_15, nl_16, nl_20, nl_21, nl_22, nl_23, nl_24, nl_25, nl_26, nl_27, nl_28, nl_29, nl_30, nl_31, nl_32, nl_40, nl_41, nl_42, nl_43, nl_45, nl_47, nl_48, nl_50, nl_57, nl_59, nl_60, nl_61, nl_62, nl_63, nl_64, nl_91, nl_93, nl_94, nl_97, nl_98, nl_100, nl_110, nl_122, nl_130, nl_144, nl_160, nl_240, nl_241, nl_255, nl_256, nl_400, nl_800, nl_900, nl_999, nl_1000, nl_1001, nl_1024, nl_1103, nl_1928, nl_4321, nl_5560, nl_12345, nl_1000000, nl_1000003, nl_252645135, nl_858993459, nl_1431655765, nl_1000000000, nI_add, pk_mul, n_sub, n_neg, n_cl, leT, leF, ltT, ltF, eqT, eqF, kbT, s_II, s_In, s_IJ, s_IA, s_IL, s_IR, s_IC, s_JI, s_JJ, s_Jn, s_JA, s_JL, s_JR, s_JC, s_AI, s_AJ, s_AA, s_An, s_AL, s_AR, s_AC, s_LI, s_LJ, s_LA, s_LL, s_Ln, s_LR, s_LC, ↓b_of pb, f_X12_findBest_91]
    · obtain ⟨X, x1, x2, x3⟩ := e_mosts (hQ.fr hF rfl rfl rfl rfl) hh (show t < 256 by omega) hM
      have r1 := x3.m (Nat.le_refl M)
      have x51 : gI X 51 = nI bw := (x2.I (k := 51) rfl).trans k1
      have x52 : gI X 52 = nI b := (x2.I (k := 52) rfl).trans k2
      have b1 := bb t
      have b2 := bb b
      rw [k6] at b2
      have pb1 := e_bits (s := t) (by omega) X
      have pb2 := e_bits (s := b) (by omega) X
      have fX : Fr [51, 52] [] [74] [] S X := hF.trans (x2.mono rfl rfl rfl rfl)
      by_cases c2 : bw < mwF r V h t (nD r) M ∨ (mwF r V h t (nD r) M = bw ∧ pc16 t < pc16 b)
      · obtain ⟨b', bw', W, w1, w2⟩ := ih f (t + 1) (sI (sI X 51 (nI (mwF r V h t (nD r) M))) 52 (nI t)) (by omega) (by omega) ((fX.sI rfl _).sI rfl _) ⟨t, _, by rw [s_In (by decide), s_II], s_II _ _ _, by omega, by omega, by omega, rfl, fun u hu hp => by
          by_cases q : u = t
          · rw [q]; exact Or.inr ⟨rfl, Or.inr ⟨rfl, Nat.le_refl _⟩⟩
          · have := k7 u (by omega) hp
            omega⟩
        refine ⟨b', bw', W, ?_, w2⟩
        rw [← w1]
        show f_X12_findBest_13 (f + 1) _ _ _ _ _ = _
        rw [f_X12_findBest_13]
        generalize mwF r V h t (nD r) M = v at *
        rcases c2 with c2 | ⟨c2, c3⟩
        · simp (disch := omega) only [k_let, Option.bind_some, ↓reduceIte, eq_self, true_or, or_true, n01_0, n01_1, kb_or, kb_0T, kb_0F, vn_0, vn_1, vn_k, nl_0, nl_1, nl_2, nl_3, nl_4, nl_5, nl_6, nl_7, nl_8, nl_9, nl_10, nl_11, nl_12, nl_13, nl_14, nl_15, nl_16, nl_20, nl_21, nl_22, nl_23, nl_24, nl_25, nl_26, nl_27, nl_28, nl_29, nl_30, nl_31, nl_32, nl_40, nl_41, nl_42, nl_43, nl_45, nl_47, nl_48, nl_50, nl_57, nl_59, nl_60, nl_61, nl_62, nl_63, nl_64, nl_91, nl_93, nl_94, nl_97, nl_98, nl_100, nl_110, nl_122, nl_130, nl_144, nl_160, nl_240, nl_241, nl_255, nl_256, nl_400, nl_800, nl_900, nl_999, nl_1000, nl_1001, nl_1024, nl_1103, nl_1928, nl_4321, nl_5560, nl_12345, nl_1000000, nl_1000003, nl_252645135, nl_858993459, nl_1431655765, nl_1000000000, nI_add, pk_mul, n_sub, n_neg, n_cl, leT, leF, ltT, ltF, eqT, eqF, kbT, s_II, s_In, s_IJ, s_IA, s_IL, s_IR, s_IC, s_JI, s_JJ, s_Jn, s_JA, s_JL, s_JR, s_JC, s_AI, s_AJ, s_AA, s_An, s_AL, s_AR, s_AC, s_LI, s_LJ, s_LA, s_LL, s_Ln, s_LR, s_LC, ↓b_of pb, ↓b_of x1, r1, x51, f_X12_findBest_79, f_X12_findBest_91]
        · simp (disch := omega) only [k_let, Option.bind_some, ↓reduceIte, eq_self, true_or, or_true, n01_0, n01_1, kb_or, kb_0T, kb_0F, vn_0, vn_1, vn_k, nl_0, nl_1, nl_2, nl_3, nl_4, nl_5, nl_6, nl_7, nl_8, nl_9, nl_10, nl_11, nl_12, nl_13, nl_14, nl_15, nl_16, nl_20, nl_21, nl_22, nl_23, nl_24, nl_25, nl_26, nl_27, nl_28, nl_29, nl_30, nl_31, nl_32, nl_40, nl_41, nl_42, nl_43, nl_45, nl_47, nl_48, nl_50, nl_57, nl_59, nl_60, nl_61, nl_62, nl_63, nl_64, nl_91, nl_93, nl_94, nl_97, nl_98, nl_100, nl_110, nl_122, nl_130, nl_144, nl_160, nl_240, nl_241, nl_255, nl_256, nl_400, nl_800, nl_900, nl_999, nl_1000, nl_1001, nl_1024, nl_1103, nl_1928, nl_4321, nl_5560, nl_12345, nl_1000000, nl_1000003, nl_252645135, nl_858993459, nl_1431655765, nl_1000000000, nI_add, pk_mul, n_sub, n_neg, n_cl, leT, leF, ltT, ltF, eqT, eqF, kbT, s_II, s_In, s_IJ, s_IA, s_IL, s_IR, s_IC, s_JI, s_JJ, s_Jn, s_JA, s_JL, s_JR, s_JC, s_AI, s_AJ, s_AA, s_An, s_AL, s_AR, s_AC, s_LI, s_LJ, s_LA, s_LL, s_Ln, s_LR, s_LC, ↓b_of pb, ↓b_of x1, r1, x51, x52, ↓b_of pb1, ↓b_of pb2, c2, f_X12_findBest_79, f_X12_findBest_91]
      · obtain ⟨b', bw', W, w1, w2⟩ := ih f (t + 1) X (by omega) (by omega) fX ⟨b, bw, x51, x52, k3, by omega, k5, k6, fun u hu hp => by
          by_cases q : u = t
          · rw [q]; omega
          · exact k7 u (by omega) hp⟩
        refine ⟨b', bw', W, ?_, w2⟩
        rw [← w1]
        show f_X12_findBest_13 (f + 1) _ _ _ _ _ = _
        rw [f_X12_findBest_13]
        generalize mwF r V h t (nD r) M = v at *
        by_cases c3 : v = bw
        · simp (disch := omega) only [k_let, Option.bind_some, ↓reduceIte, eq_self, true_or, or_true, n01_0, n01_1, kb_or, kb_0T, kb_0F, vn_0, vn_1, vn_k, nl_0, nl_1, nl_2, nl_3, nl_4, nl_5, nl_6, nl_7, nl_8, nl_9, nl_10, nl_11, nl_12, nl_13, nl_14, nl_15, nl_16, nl_20, nl_21, nl_22, nl_23, nl_24, nl_25, nl_26, nl_27, nl_28, nl_29, nl_30, nl_31, nl_32, nl_40, nl_41, nl_42, nl_43, nl_45, nl_47, nl_48, nl_50, nl_57, nl_59, nl_60, nl_61, nl_62, nl_63, nl_64, nl_91, nl_93, nl_94, nl_97, nl_98, nl_100, nl_110, nl_122, nl_130, nl_144, nl_160, nl_240, nl_241, nl_255, nl_256, nl_400, nl_800, nl_900, nl_999, nl_1000, nl_1001, nl_1024, nl_1103, nl_1928, nl_4321, nl_5560, nl_12345, nl_1000000, nl_1000003, nl_252645135, nl_858993459, nl_1431655765, nl_1000000000, nI_add, pk_mul, n_sub, n_neg, n_cl, leT, leF, ltT, ltF, eqT, eqF, kbT, s_II, s_In, s_IJ, s_IA, s_IL, s_IR, s_IC, s_JI, s_JJ, s_Jn, s_JA, s_JL, s_JR, s_JC, s_AI, s_AJ, s_AA, s_An, s_AL, s_AR, s_AC, s_LI, s_LJ, s_LA, s_LL, s_Ln, s_LR, s_LC, ↓b_of pb, ↓b_of x1, r1, x51, x52, ↓b_of pb1, ↓b_of pb2, c3, f_X12_findBest_79, f_X12_findBest_91]
        · simp (disch := omega) only [k_let, Option.bind_some, ↓reduceIte, eq_self, true_or, or_true, n01_0, n01_1, kb_or, kb_0T, kb_0F, vn_0, vn_1, vn_k, nl_0, nl_1, nl_2, nl_3, nl_4, nl_5, nl_6, nl_7, nl_8, nl_9, nl_10, nl_11, nl_12, nl_13, nl_14, nl_15, nl_16, nl_20, nl_21, nl_22, nl_23, nl_24, nl_25, nl_26, nl_27, nl_28, nl_29, nl_30, nl_31, nl_32, nl_40, nl_41, nl_42, nl_43, nl_45, nl_47, nl_48, nl_50, nl_57, nl_59, nl_60, nl_61, nl_62, nl_63, nl_64, nl_91, nl_93, nl_94, nl_97, nl_98, nl_100, nl_110, nl_122, nl_130, nl_144, nl_160, nl_240, nl_241, nl_255, nl_256, nl_400, nl_800, nl_900, nl_999, nl_1000, nl_1001, nl_1024, nl_1103, nl_1928, nl_4321, nl_5560, nl_12345, nl_1000000, nl_1000003, nl_252645135, nl_858993459, nl_1431655765, nl_1000000000, nI_add, pk_mul, n_sub, n_neg, n_cl, leT, leF, ltT, ltF, eqT, eqF, kbT, s_II, s_In, s_IJ, s_IA, s_IL, s_IR, s_IC, s_JI, s_JJ, s_Jn, s_JA, s_JL, s_JR, s_JC, s_AI, s_AJ, s_AA, s_An, s_AL, s_AR, s_AC, s_LI, s_LJ, s_LA, s_LL, s_Ln, s_LR, s_LC, ↓b_of pb, ↓b_of x1, r1, x51, f_X12_findBest_79, f_X12_findBest_91]
