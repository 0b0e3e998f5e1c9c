/-! part 96: the class finds the best ring -/
theorem l_133 {ad : Nat → Nat} {X : Nat} {S : St} (hX : X < 256) (ha : ∀ k, k < 8 → gA S 30 k = nI (ad k) ∧ ad k < 256) : ∀ (m f n : Nat) (U : St), n + m = 9 → m < f → 2 ≤ n → Fr [] [] [31] [] S U → (∀ n' s', 2 ≤ n' → n' < n → ¬ rFd ad X n' s') →
    (∃ n1 s1 W, f_X8_find_133 f (nI X) (nI n) U = some (nI 1, sI W 18 (nI n1)) ∧ 2 ≤ n1 ∧ n1 ≤ 8 ∧ rFd ad X n1 s1 ∧ (∀ n' s', 2 ≤ n' → n' < n1 → ¬ rFd ad X n' s') ∧ (∀ s', s' < s1 → ¬ rFd ad X n1 s') ∧ Fr [] [] [31] [] S W ∧ ∀ j, j < n1 → gA W 31 j = nI (wk ad s1 j)) ∨
    (∃ W, f_X8_find_133 f (nI X) (nI n) U = some (nI 0, W) ∧ Fr [] [] [31] [] S W ∧ ∀ n' s', 2 ≤ n' → n' ≤ 8 → ¬ rFd ad X n' s') := by
  intro m
  induction m with
  | zero =>
    intro f n U hi hf h2 hF hN
    obtain ⟨f, rfl⟩ : ∃ g, f = g + 1 := ⟨f - 1, by omega⟩
    refine Or.inr ⟨U, ?_, hF, fun n' s' a b => hN n' s' a (by omega)⟩
    rw [f_X8_find_133]
    simp (disch := omega) only [k_let, Option.bind_some, ↓reduceIte, eq_self, true_or, or_true, n01_0, n01_1, kb_or, kb_0T, kb_0F, vn_0, vn_1, vn_k, nl_0, nl_1, nl_2, nl_3, nl_4, nl_5, nl_6, nl_7, nl_8, nl_9, nl_10, nl_11, nl_12, nl_13, nl_14, nl_15, nl_16, nl_20, nl_21, nl_22, nl_23, nl_24, nl_25, nl_26, nl_27, nl_28, nl_29, nl_30, nl_31, nl_32, nl_40, nl_41, nl_42, nl_43, nl_45, nl_47, nl_48, nl_50, nl_57, nl_59, nl_60, nl_61, nl_62, nl_63, nl_64, nl_91, nl_93, nl_94, nl_97, nl_98, nl_100, nl_110, nl_122, nl_130, nl_144, nl_160, nl_240, nl_241, nl_255, nl_256, nl_400, nl_800, nl_900, nl_999, nl_1000, nl_1001, nl_1024, nl_1103, nl_1928, nl_4321, nl_5560, nl_12345, nl_1000000, nl_1000003, nl_252645135, nl_858993459, nl_1431655765, nl_1000000000, nI_add, pk_mul, n_sub, n_neg, n_cl, leT, leF, ltT, ltF, eqT, eqF, kbT, s_II, s_In, s_IJ, s_IA, s_IL, s_IR, s_IC, s_JI, s_JJ, s_Jn, s_JA, s_JL, s_JR, s_JC, s_AI, s_AJ, s_AA, s_An, s_AL, s_AR, s_AC, s_LI, s_LJ, s_LA, s_LL, s_Ln, s_LR, s_LC]
  | succ m ih =>
    intro f n U hi hf h2 hF hN
    obtain ⟨f, rfl⟩ : ∃ g, f = g + 1 := ⟨f - 1, by omega⟩
    have haU : ∀ k, k < 8 → gA U 30 k = nI (ad k) ∧ ad k < 256 := fun k hk => by rw [hF.A (k := 30) rfl]; exact ha k hk
    have e : f_X8_find_133 (f + 1) (nI X) (nI n) U = f_X8_find_143 (f_X8_find_133 f) FU (nI X) (nI n) (nI 0) U := by
      rw [f_X8_find_133]
      simp (disch := omega) only [k_let, Option.bind_some, ↓reduceIte, eq_self, true_or, or_true, n01_0, n01_1, kb_or, kb_0T, kb_0F, vn_0, vn_1, vn_k, nl_0, nl_1, nl_2, nl_3, nl_4, nl_5, nl_6, nl_7, nl_8, nl_9, nl_10, nl_11, nl_12, nl_13, nl_14, nl_15, nl_16, nl_20, nl_21, nl_22, nl_23, nl_24, nl_25, nl_26, nl_27, nl_28, nl_29, nl_30, nl_31, nl_32, nl_40, nl_41, nl_42, nl_43, nl_45, nl_47, nl_48, nl_50, nl_57, nl_59, nl_60, nl_61, nl_62, nl_63, nl_64, nl_91, nl_93, nl_94, nl_97, nl_98, nl_100, nl_110, nl_122, nl_130, nl_144, nl_160, nl_240, nl_241, nl_255, nl_256, nl_400, nl_800, nl_900, nl_999, nl_1000, nl_1001, nl_1024, nl_1103, nl_1928, nl_4321, nl_5560, nl_12345, nl_1000000, nl_1000003, nl_252645135, nl_858993459, nl_1431655765, nl_1000000000, nI_add, pk_mul, n_sub, n_neg, n_cl, leT, leF, ltT, ltF, eqT, eqF, kbT, s_II, s_In, s_IJ, s_IA, s_IL, s_IR, s_IC, s_JI, s_JJ, s_Jn, s_JA, s_JL, s_JR, s_JC, s_AI, s_AJ, s_AA, s_An, s_AL, s_AR, s_AC, s_LI, s_LJ, s_LA, s_LL, s_Ln, s_LR, s_LC]
    rw [e]
    rcases l_143 (K := f_X8_find_133 f) (n := n) hX (by omega) h2 haU (X + 1) FU 0 U (by omega) (FU_ge (by omega)) (Fr.refl U) (fun s' h' => absurd h' (Nat.not_lt_zero _)) with ⟨s1, W, w1, w2, w3, w4, w5⟩ | ⟨W, w1, w2, w3⟩
    · exact Or.inl ⟨n, s1, W, w1, h2, by omega, w2, hN, w3, hF.trans w4, w5⟩
    · rw [w1]
      refine ih f (n + 1) W (by omega) (by omega) (by omega) (hF.trans w2) (fun n' s' a b => ?_)
      by_cases q : n' = n
      · rw [q]; exact w3 s'
      · exact hN n' s' a (by omega)
theorem sm_ge {f : Nat → Nat} {d : Nat} : ∀ {n : Nat}, d < n → f d ≤ sm f n := by
  intro n
  induction n with
  | zero => intro h; exact absurd h (Nat.not_lt_zero _)
  | succ n ih =>
    intro h
    show f d ≤ sm f n + f n
    by_cases q : d = n
    · rw [q]; omega
    · have := ih (by omega); omega
theorem sm_ex {f : Nat → Nat} {n : Nat} (h : 0 < sm f n) : ∃ d, d < n ∧ 0 < f d := by
  apply Classical.byContradiction
  intro q
  have : sm f n = 0 := sm_0 (fun d hd => by
    apply Classical.byContradiction
    intro q2
    exact q ⟨d, hd, by omega⟩)
  omega
theorem adN_tb {r : Nat → Int32} {V : Nat → Vd} {t i j : Nat} : eAd (adN r V t) i j = true ↔ j < 8 ∧ ∃ d, d < nD r ∧ ctB r V t d = true ∧ dOw r d = i ∧ dCr r d = j ∧ 0 < btN r V t i j := by
  show (bs (edB r V t i) 8).testBit j = true ↔ _
  rw [bs_tb, Bool.and_eq_true, decide_eq_true_eq]
  constructor
  · rintro ⟨h1, h2⟩
    have h3 : 0 < btN r V t i j := of_decide_eq_true h2
    obtain ⟨d, d1, d2⟩ := sm_ex h3
    unfold btF at d2
    by_cases c : ctB r V t d = true ∧ dOw r d = i ∧ dCr r d = j
    · exact ⟨h1, d, d1, c.1, c.2.1, c.2.2, h3⟩
    · rw [if_neg c] at d2; exact absurd d2 (Nat.lt_irrefl _)
  · rintro ⟨h1, d, d1, d2, d3, d4, d5⟩
    exact ⟨h1, decide_eq_true d5⟩
theorem adN_irr {r : Nat → Int32} {V : Nat → Vd} {t : Nat} (w : Wf r) (a : Nat) : eAd (adN r V t) a a = false := by
  cases z : eAd (adN r V t) a a with
  | false => rfl
  | true =>
    obtain ⟨h1, d, d1, d2, d3, d4, d5⟩ := adN_tb.mp z
    exact absurd (d3.trans d4.symm) (w.oc d1)
theorem ring_sub {r : Nat → Int32} {V : Nat → Vd} {t n : Nat} {p : Nat → Nat} (h : Cy (eAd (adN r V t)) n p) : ps p n &&& (owP r V t (nD r) &&& crP r V t (nD r)) = ps p n := by
  obtain ⟨h2, h8, hinj, he, hcl⟩ := h
  refine sub_iff.mpr (fun k hk => ?_)
  obtain ⟨i, i1, i2⟩ := (ps_tb _ _ _).mp hk
  have k8 : k < 8 := by rw [← i2]; exact h8 i i1
  have o : ∃ j, eAd (adN r V t) k j = true := by
    by_cases q : i + 1 < n
    · exact ⟨_, by rw [← i2]; exact he i q⟩
    · exact ⟨_, by rw [← i2, show i = n - 1 by omega]; exact hcl⟩
  have c : ∃ j, eAd (adN r V t) j k = true := by
    by_cases q : i = 0
    · exact ⟨_, by rw [← i2, q]; exact hcl⟩
    · refine ⟨p (i - 1), ?_⟩
      have := he (i - 1) (by omega)
      rw [show i - 1 + 1 = i by omega, i2] at this
      exact this
  obtain ⟨j1, o1⟩ := o
  obtain ⟨j2, c1⟩ := c
  obtain ⟨a1, d, d1, d2, d3, d4, d5⟩ := adN_tb.mp o1
  obtain ⟨b1, e, e1, e2, e3, e4, e5⟩ := adN_tb.mp c1
  rw [and_tb, Bool.and_eq_true]
  constructor
  · show (bs _ 8).testBit k = true
    rw [bs_tb, decide_eq_true k8, Bool.true_and]
    refine decide_eq_true (Nat.lt_of_lt_of_le ?_ (sm_ge d1))
    unfold owF
    rw [if_pos ⟨d2, d3⟩]; decide
  · show (bs _ 8).testBit k = true
    rw [bs_tb, decide_eq_true k8, Bool.true_and]
    refine decide_eq_true (Nat.lt_of_lt_of_le ?_ (sm_ge e1))
    unfold crF
    rw [if_pos ⟨e2, e4⟩]; decide
/-- what the class's search says -/
theorem e_cfind {r : Nat → Int32} {V : Nat → Vd} {S : St} (hA : Ask r V S) {T : St} (fT : Fs S T) {t : Nat} (ht : t < 6) :
    ∃ b W, f_X8_find (nI t) T = some (kB b, W) ∧ Fs S W ∧ Qc r V W ∧ gI W 19 = nI t ∧
      ((b = true ∧ ∃ n p, Be (eAd (adN r V t)) n p ∧ gI W 18 = nI n ∧ ∀ j, j < n → gA W 31 j = nI (p j)) ∨ (b = false ∧ ∀ n p, ¬ CyM (eAd (adN r V t)) n p)) := by
  obtain ⟨⟨A, a1, a2, a3, a4⟩, -⟩ := hA (sI T 19 (nI t)) (fT.sI rfl _)
  obtain ⟨B, b1, b2, b3⟩ := e_fill30 (S := A)
  have hB := a4.fr b2 rfl rfl rfl rfl rfl
  have h19 : gI B 19 = nI t := by rw [b2.I (k := 19) rfl, a2.I (k := 19) rfl, s_II]
  have h16 := hB.1.1.n16
  obtain ⟨C, c1, c2, c3⟩ := l_c27 hB ht h19 (nD r) FU 0 B (by omega) (FU_ge (by omega)) (Fr.refl B) (fun k hk => by rw [b3 k hk]; rfl)
  have hC := hB.fr c2 rfl rfl rfl rfl rfl
  have fC : Fs S C := a3.trans ((b2.mono rfl rfl rfl rfl : Fs A B).trans (c2.mono rfl rfl rfl rfl))
  have l1 := bs_lt (fun i => decide (0 < sm (owF r V t i) (nD r))) 8
  have X8 : owP r V t (nD r) &&& crP r V t (nD r) < 256 := Nat.lt_of_le_of_lt Nat.and_le_left l1
  have ea : f_X8_find (nI t) T = f_X8_find_133 FU (nI (owP r V t (nD r) &&& crP r V t (nD r))) (nI 2) C := by
    unfold f_X8_find
    have z1 : owP r V t 0 = 0 := rfl
    have z2 : crP r V t 0 = 0 := rfl
    rw [z1, z2] at c1
    rw [k_let]
    simp only [nl_0, nl_1, nl_2, nl_3, nl_4, nl_5, nl_6, nl_7, nl_8, nl_9, nl_10, nl_11, nl_12, nl_13, nl_14, nl_15, nl_16, nl_20, nl_21, nl_22, nl_23, nl_24, nl_25, nl_26, nl_27, nl_28, nl_29, nl_30, nl_31, nl_32, nl_40, nl_41, nl_42, nl_43, nl_45, nl_47, nl_48, nl_50, nl_57, nl_59, nl_60, nl_61, nl_62, nl_63, nl_64, nl_91, nl_93, nl_94, nl_97, nl_98, nl_100, nl_110, nl_122, nl_130, nl_144, nl_160, nl_240, nl_241, nl_255, nl_256, nl_400, nl_800, nl_900, nl_999, nl_1000, nl_1001, nl_1024, nl_1103, nl_1928, nl_4321, nl_5560, nl_12345, nl_1000000, nl_1000003, nl_252645135, nl_858993459, nl_1431655765, nl_1000000000, ↓b_of a1, ↓b_of b1, c1]
    unfold f_X8_find_125
    rw [n_and]
    rfl
  have key : ∀ n p, CyM (eAd (adN r V t)) n p → ∃ m s, 2 ≤ m ∧ m ≤ 8 ∧ rFd (adN r V t) (owP r V t (nD r) &&& crP r V t (nD r)) m s ∧ (m < n ∨ (m = n ∧ s ≤ ps p n)) := fun n p h => by
    obtain ⟨m, q, q1, q2⟩ := ex_be _ n p (Nat.lt_succ_self _) h
    exact ⟨m, ps q m, q1.1.1.1, q1.1.1.n8, ⟨ring_sub q1.1.1, pc_ps q1.1.1.2.1 q1.1.1.2.2.1, Be.gr (adN_irr hB.1.1) q1⟩, q2⟩
  rcases l_133 X8 (fun k hk => ⟨c3 k hk, bs_lt (edB r V t k) 8⟩) 7 FU 2 C (by omega) (FU_ge (by omega)) (by omega) (Fr.refl C) (fun n' s' x y => absurd y (by omega)) with ⟨n1, s1, W, w1, w2, w3, w4, w5, w6, w7, w8⟩ | ⟨W, w1, w2, w3⟩
  · have fW : Fr [18] [] [31] [] C (sI W 18 (nI n1)) := (w7.mono rfl rfl rfl rfl : Fr [18] [] [31] [] C W).sI rfl _
    refine ⟨true, sI W 18 (nI n1), ea.trans w1, fC.trans (fW.mono rfl rfl rfl rfl), hC.fr fW rfl rfl rfl rfl rfl, ?_, Or.inl ⟨rfl, n1, wk (adN r V t) s1, ?_, s_II _ _ _, w8⟩⟩
    · rw [fW.I (k := 19) rfl, c2.I (k := 19) rfl, h19]
    · have s8 : s1 < 256 := Nat.lt_of_le_of_lt w4.lt X8
      obtain ⟨g1, g2⟩ := GR.cy s8 w2 w4.2.1 w4.2.2
      refine ⟨g1, fun n' p' h' => ?_⟩
      obtain ⟨m, s, m1, m2, m3, m4⟩ := key n' p' h'
      rw [g2]
      by_cases q : m < n1
      · exact absurd m3 (w5 m s m1 q)
      · by_cases q2 : m = n1
        · rw [q2] at m3 m4
          by_cases q3 : s < s1
          · exact absurd m3 (w6 s q3)
          · omega
        · omega
  · refine ⟨false, W, ea.trans w1, fC.trans (w2.mono rfl rfl rfl rfl), hC.fr w2 rfl rfl rfl rfl rfl, ?_, Or.inr ⟨rfl, fun n p h => ?_⟩⟩
    · rw [w2.I (k := 19) rfl, c2.I (k := 19) rfl, h19]
    · obtain ⟨m, s, m1, m2, m3, m4⟩ := key n p h
      exact w3 m s m1 m2 m3
