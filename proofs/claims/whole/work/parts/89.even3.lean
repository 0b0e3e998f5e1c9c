/-! part 89: evenings -/
def evI : List Nat := [28, 32, 34, 54, 9, 10, 11, 12, 13, 14, 15, 16, 17, 18, 19, 20, 21, 22, 23, 24, 25, 26, 27, 29, 33, 37, 38, 39, 41, 42, 43, 44, 45, 46, 47, 48, 49, 50, 51, 52, 53]
def evA : List Nat := [46, 47, 80, 18, 19, 20, 21, 22, 24, 26, 27, 28, 30, 31, 38, 40, 42, 43, 45, 57, 58, 59, 60, 61, 66, 67, 68, 69, 70, 71, 72, 73, 74, 75, 76, 77, 78, 79]
theorem evI_8 {k : Nat} (h : k < 9) : k ∉ evI := by
  intro q
  simp only [evI, List.mem_cons, List.not_mem_nil, or_false] at q
  omega
theorem evI_55 {k : Nat} (h : 55 ≤ k) : k ∉ evI := by
  intro q
  simp only [evI, List.mem_cons, List.not_mem_nil, or_false] at q
  omega
theorem evA_15 {k : Nat} (h : k < 18) : k ∉ evA := by
  intro q
  simp only [evA, List.mem_cons, List.not_mem_nil, or_false] at q
  omega
theorem evA_81 {k : Nat} (h : 81 ≤ k) : k ∉ evA := by
  intro q
  simp only [evA, List.mem_cons, List.not_mem_nil, or_false] at q
  omega
theorem Im.ev {S T : St} {k : Nat} (h : Im S k) (f : Fr evI scJ evA scL S T) : Im T k := by
  rcases h with ⟨h1, h2⟩ | ⟨h1, h2, h3⟩
  · exact Or.inl ⟨by rw [f.2.2.2.2.1]; exact h1, by rw [f.A (k := 55) rfl]; exact h2⟩
  · refine Or.inr ⟨by rw [f.2.2.2.2.1]; exact h1, by rw [f.A (k := 55) rfl]; exact h2, ?_⟩
    rw [f.2.2.2.2.2, f.2.2.2.2.1, f.A (k := 54) rfl]
    exact h3.congr (fun i _ => f.1 _ (evI_55 (by omega))) (fun j _ => f.2.2.1 _ (evA_81 (by omega))) (fun _ => rfl)
theorem Inv.eve {S T : St} (h : Inv S) (f : Fr evI scJ evA scL S T) (hp : Pp T) (h32 : gI T 32 = gI T 34) : Inv T := by
  obtain ⟨h1, ⟨t1, t2, t3⟩, ⟨a1, a2, a3⟩, h4, -, ⟨m0, m1⟩, c1, c2, c3, kv⟩ := h
  refine ⟨?_, ⟨?_, ?_, ?_⟩, ⟨?_, ?_, h32⟩, ?_, hp, ⟨m0.ev f, m1.ev f⟩, ?_, ?_, ?_, kv.fr f⟩
  · rw [f.2.2.2.2.2, f.2.2.2.2.1, f.A (k := 53) rfl]
    exact h1.congr (fun i hi => f.1 _ (evI_8 (by omega))) (fun j hj => f.2.2.1 _ (evA_15 (by omega))) (fun _ => rfl)
  · rw [f.I (k := 8) rfl, f.I (k := 36) rfl]; exact t1
  · unfold isN rN; rw [f.I (k := 8) rfl]; exact t2
  · unfold rN; rw [f.I (k := 8) rfl, f.A (k := 16) rfl, f.A (k := 56) rfl]; exact t3
  · rw [f.I (k := 30) rfl, f.I (k := 35) rfl]; exact a1
  · rw [f.I (k := 31) rfl, f.I (k := 40) rfl]; exact a2
  · rw [f.A (k := 50) rfl, f.A (k := 52) rfl]; exact h4
  · rw [f.L (k := 62) rfl]; exact c1
  · rw [f.L (k := 63) rfl]; exact c2
  · rw [f.L (k := 37) rfl]; exact c3
theorem s_FF (S : St) (k : Nat) (f : Nat → Int32) : gA (sF S k f) k = f := if_pos rfl
theorem Fr.sF {ci cj ca cl : List Nat} {S T : St} (h : Fr ci cj ca cl S T) {k : Nat} (hk : ca.contains k = true) (v : Nat → Int32) : Fr ci cj ca cl S (sF T k v) :=
  h.trans ⟨fun _ _ => rfl, fun _ _ => rfl, fun j hj => if_neg (fun e => hj (by rw [e]; exact List.contains_iff_mem.mp hk)), fun _ _ => rfl, fun _ => rfl, rfl⟩
/-- owners, state and number of takings at the end -/
def evY (r : Nat → Int32) (a c : Nat) : (Nat → Nat) × Nat × Nat := if 0 < rN r 0 then evS r (6 * c) (dOw r, a, 0) else (dOw r, a, 0)
theorem e_cwrite {r : Nat → Int32} {S : St} (h : Ic r S) {a c : Nat} (ha : a ≤ 1000000) (hc : c ≤ 20) : ∃ W, f_X6_write (nI a) (nI c) S = f_X6_write_88 (nI (evY r a c).2.2) W ∧ Fr [29] [] [45] [] S W ∧ (∀ e, e < nD r → gA W 45 e = nI ((evY r a c).1 e) ∧ (evY r a c).1 e < 8) ∧ (evY r a c).2.2 ≤ 120 := by
  have h16 := h.1.n16
  have t6 := h.1.t6
  have f1 : Fr [29] [] [45] [] S (sI (sF S 45 (va_cpy (gA S 3) (gA S 45) 0 0 16)) 29 (nI a)) := ((Fr.refl S).sF rfl _).sI rfl _
  have hU := h.fr f1 rfl rfl
  have i0 := hU.I0
  have hR : ∀ e, e < nD r → gA (sI (sF S 45 (va_cpy (gA S 3) (gA S 45) 0 0 16)) 29 (nI a)) 45 e = nI (dOw r e) ∧ dOw r e < 8 := fun e he => by
    refine ⟨?_, (h.1.ow he).2⟩
    rw [s_IA, s_FF, ← (h.C he).1]
    unfold va_cpy
    rw [if_pos (by omega)]
    congr 1
    omega
  by_cases q : 0 < rN r 0
  · have ey : evY r a c = evS r (6 * c) (dOw r, a, 0) := if_pos q
    obtain ⟨W, w1, w2, w3, w4⟩ := l_c38 hc q (6 * c) FU 0 (dOw r, a, 0) _ (by omega) (FU_ge (by omega)) hU (s_II _ _ _) (by show a ≤ 1000002; omega) hR (Nat.le_refl _)
    rw [ey]
    refine ⟨W, ?_, f1.trans w2, w3, w4⟩
    rw [← w1]
    unfold f_X6_write
    rw [k_let, k_let, i0]
    simp (disch := omega) only [k_let, Option.bind_some, ↓reduceIte, eq_self, true_or, or_true, n01_0, n01_1, kb_or, kb_0T, kb_0F, vn_0, vn_1, vn_k, nl_0, nl_1, nl_2, nl_3, nl_4, nl_5, nl_6, nl_7, nl_8, nl_9, nl_10, nl_11, nl_12, nl_13, nl_14, nl_15, nl_16, nl_20, nl_21, nl_22, nl_23, nl_24, nl_25, nl_26, nl_27, nl_28, nl_29, nl_30, nl_31, nl_32, nl_40, nl_41, nl_42, nl_43, nl_45, nl_47, nl_48, nl_50, nl_57, nl_59, nl_60, nl_61, nl_62, nl_63, nl_64, nl_91, nl_93, nl_94, nl_97, nl_98, nl_100, nl_110, nl_122, nl_130, nl_144, nl_160, nl_240, nl_241, nl_255, nl_256, nl_400, nl_800, nl_900, nl_999, nl_1000, nl_1001, nl_1024, nl_1103, nl_1928, nl_4321, nl_5560, nl_12345, nl_1000000, nl_1000003, nl_252645135, nl_858993459, nl_1431655765, nl_1000000000, nI_add, pk_mul, n_sub, n_neg, n_cl, leT, leF, ltT, ltF, eqT, eqF, kbT, s_II, s_In, s_IJ, s_IA, s_IL, s_IR, s_IC, s_JI, s_JJ, s_Jn, s_JA, s_JL, s_JR, s_JC, s_AI, s_AJ, s_AA, s_An, s_AL, s_AR, s_AC, s_LI, s_LJ, s_LA, s_LL, s_Ln, s_LR, s_LC]
  · have ey : evY r a c = (dOw r, a, 0) := if_neg q
    rw [ey]
    refine ⟨_, ?_, f1, hR, Nat.zero_le _⟩
    unfold f_X6_write
    rw [k_let, k_let, i0]
    simp (disch := omega) only [k_let, Option.bind_some, ↓reduceIte, eq_self, true_or, or_true, n01_0, n01_1, kb_or, kb_0T, kb_0F, vn_0, vn_1, vn_k, nl_0, nl_1, nl_2, nl_3, nl_4, nl_5, nl_6, nl_7, nl_8, nl_9, nl_10, nl_11, nl_12, nl_13, nl_14, nl_15, nl_16, nl_20, nl_21, nl_22, nl_23, nl_24, nl_25, nl_26, nl_27, nl_28, nl_29, nl_30, nl_31, nl_32, nl_40, nl_41, nl_42, nl_43, nl_45, nl_47, nl_48, nl_50, nl_57, nl_59, nl_60, nl_61, nl_62, nl_63, nl_64, nl_91, nl_93, nl_94, nl_97, nl_98, nl_100, nl_110, nl_122, nl_130, nl_144, nl_160, nl_240, nl_241, nl_255, nl_256, nl_400, nl_800, nl_900, nl_999, nl_1000, nl_1001, nl_1024, nl_1103, nl_1928, nl_4321, nl_5560, nl_12345, nl_1000000, nl_1000003, nl_252645135, nl_858993459, nl_1431655765, nl_1000000000, nI_add, pk_mul, n_sub, n_neg, n_cl, leT, leF, ltT, ltF, eqT, eqF, kbT, s_II, s_In, s_IJ, s_IA, s_IL, s_IR, s_IC, s_JI, s_JJ, s_Jn, s_JA, s_JL, s_JR, s_JC, s_AI, s_AJ, s_AA, s_An, s_AL, s_AR, s_AC, s_LI, s_LJ, s_LA, s_LL, s_Ln, s_LR, s_LC]
theorem l_m43 {r : Nat → Int32} {S : St} {x : Int32} (h : Ir r S) : ∀ (m f d : Nat) (U : St), d + m = nD r → m < f → Fr [] [] [79] [] S U → (∀ e, e < d → gA U 79 e = nI (dOw r e)) →
    ∃ W, f_X12_evenings_43 f x (nI d) U = f_X12_evenings_74 FU x (nI 0) (nI 0) W ∧ Fr [] [] [79] [] S W ∧ (∀ e, e < nD r → gA W 79 e = nI (dOw r e)) := by
  have h16 := h.1.n16
  intro m
  induction m with
  | zero =>
    intro f d U hd hf hF hR
    obtain ⟨f, rfl⟩ : ∃ g, f = g + 1 := ⟨f - 1, by omega⟩
    have : d = nD r := by omega
    subst this
    have pn := e_m_n (h.fr hF rfl)
    refine ⟨U, ?_, hF, hR⟩
    rw [f_X12_evenings_43]
    simp (disch := omega) only [k_let, Option.bind_some, ↓reduceIte, eq_self, true_or, or_true, n01_0, n01_1, kb_or, kb_0T, kb_0F, vn_0, vn_1, vn_k, nl_0, nl_1, nl_2, nl_3, nl_4, nl_5, nl_6, nl_7, nl_8, nl_9, nl_10, nl_11, nl_12, nl_13, nl_14, nl_15, nl_16, nl_20, nl_21, nl_22, nl_23, nl_24, nl_25, nl_26, nl_27, nl_28, nl_29, nl_30, nl_31, nl_32, nl_40, nl_41, nl_42, nl_43, nl_45, nl_47, nl_48, nl_50, nl_57, nl_59, nl_60, nl_61, nl_62, nl_63, nl_64, nl_91, nl_93, nl_94, nl_97, nl_98, nl_100, nl_110, nl_122, nl_130, nl_144, nl_160, nl_240, nl_241, nl_255, nl_256, nl_400, nl_800, nl_900, nl_999, nl_1000, nl_1001, nl_1024, nl_1103, nl_1928, nl_4321, nl_5560, nl_12345, nl_1000000, nl_1000003, nl_252645135, nl_858993459, nl_1431655765, nl_1000000000, nI_add, pk_mul, n_sub, n_neg, n_cl, leT, leF, ltT, ltF, eqT, eqF, kbT, s_II, s_In, s_IJ, s_IA, s_IL, s_IR, s_IC, s_JI, s_JJ, s_Jn, s_JA, s_JL, s_JR, s_JC, s_AI, s_AJ, s_AA, s_An, s_AL, s_AR, s_AC, s_LI, s_LJ, s_LA, s_LL, s_Ln, s_LR, s_LC, ↓b_of pn]
  | succ m ih =>
    intro f d U hd hf hF hR
    obtain ⟨f, rfl⟩ : ∃ g, f = g + 1 := ⟨f - 1, by omega⟩
    have hdn : d < nD r := by omega
    have hU := h.fr hF rfl
    have pn := e_m_n hU
    have p0 : f_X12_ofDebt (nI d) (0 : Int32) U = some (nI (dOw r d), U) := e_m_ow hU hdn
    have e : f_X12_evenings_43 (f + 1) x (nI d) U = f_X12_evenings_43 f x (nI (d + 1)) (sA U 79 d (nI (dOw r d))) := by
      rw [f_X12_evenings_43]
      simp (disch := omega) only [k_let, Option.bind_some, ↓reduceIte, eq_self, true_or, or_true, n01_0, n01_1, kb_or, kb_0T, kb_0F, vn_0, vn_1, vn_k, nl_0, nl_1, nl_2, nl_3, nl_4, nl_5, nl_6, nl_7, nl_8, nl_9, nl_10, nl_11, nl_12, nl_13, nl_14, nl_15, nl_16, nl_20, nl_21, nl_22, nl_23, nl_24, nl_25, nl_26, nl_27, nl_28, nl_29, nl_30, nl_31, nl_32, nl_40, nl_41, nl_42, nl_43, nl_45, nl_47, nl_48, nl_50, nl_57, nl_59, nl_60, nl_61, nl_62, nl_63, nl_64, nl_91, nl_93, nl_94, nl_97, nl_98, nl_100, nl_110, nl_122, nl_130, nl_144, nl_160, nl_240, nl_241, nl_255, nl_256, nl_400, nl_800, nl_900, nl_999, nl_1000, nl_1001, nl_1024, nl_1103, nl_1928, nl_4321, nl_5560, nl_12345, nl_1000000, nl_1000003, nl_252645135, nl_858993459, nl_1431655765, nl_1000000000, nI_add, pk_mul, n_sub, n_neg, n_cl, leT, leF, ltT, ltF, eqT, eqF, kbT, s_II, s_In, s_IJ, s_IA, s_IL, s_IR, s_IC, s_JI, s_JJ, s_Jn, s_JA, s_JL, s_JR, s_JC, s_AI, s_AJ, s_AA, s_An, s_AL, s_AR, s_AC, s_LI, s_LJ, s_LA, s_LL, s_Ln, s_LR, s_LC, ↓b_of pn, ↓b_of p0]
    rw [e]
    refine ih f (d + 1) _ (by omega) (by omega) (hF.sA rfl _ _) (fun k hk => ?_)
    rw [s_AA]
    by_cases q : k = d
    · rw [q, u_s]
    · rw [u_n q]; exact hR k (by omega)
theorem e_mwrite {r : Nat → Int32} {S : St} (h : Ir r S) {a c : Nat} (ha : a ≤ 1000000) (hc : c ≤ 20) (h1 : 1 ≤ c) (hs : gJ S 3 = lZ (a : Int)) : ∃ W, f_X12_evenings_43 FU (nI c) (nI 0) S = f_X12_evenings_215 (nI (evY r a c).2.2) W ∧ Fr [] [3] [79] [] S W ∧ (∀ e, e < nD r → gA W 79 e = nI ((evY r a c).1 e) ∧ (evY r a c).1 e < 8) := by
  have h16 := h.1.n16
  obtain ⟨U, u1, u2, u3⟩ := l_m43 (x := nI c) h (nD r) FU 0 S (by omega) (FU_ge (by omega)) (Fr.refl _) (fun e he => absurd he (Nat.not_lt_zero e))
  have hU := h.fr u2 rfl
  have hR : ∀ e, e < nD r → gA U 79 e = nI (dOw r e) ∧ dOw r e < 8 := fun e he => ⟨u3 e he, (h.1.ow he).2⟩
  by_cases q : 0 < rN r 0
  · have ey : evY r a c = evS r (6 * c) (dOw r, a, 0) := if_pos q
    obtain ⟨W, w1, w2, w3⟩ := l_m74 hc q (6 * c) FU 0 (dOw r, a, 0) U (by omega) (FU_ge (by omega)) hU (by rw [u2.J (k := 3) rfl]; exact hs) (by show a ≤ 1000002; omega) hR (Nat.le_refl _)
    rw [ey]
    exact ⟨W, u1.trans w1, (u2.mono rfl rfl rfl rfl).trans w2, w3⟩
  · have ey : evY r a c = (dOw r, a, 0) := if_neg q
    rw [ey]
    refine ⟨U, u1.trans ?_, u2.mono rfl rfl rfl rfl, hR⟩
    have hf := FU_ge (m := 1) (by decide)
    obtain ⟨g, hg⟩ : ∃ g, FU = g + 1 := ⟨FU - 1, by omega⟩
    have r0 : r 0 = nI 0 := by rw [h.1.r0]; congr 1; omega
    have g53 : gA U 53 = r := hU.m
    rw [hg, f_X12_evenings_74]
    simp (disch := omega) only [k_let, Option.bind_some, ↓reduceIte, eq_self, true_or, or_true, n01_0, n01_1, kb_or, kb_0T, kb_0F, vn_0, vn_1, vn_k, nl_0, nl_1, nl_2, nl_3, nl_4, nl_5, nl_6, nl_7, nl_8, nl_9, nl_10, nl_11, nl_12, nl_13, nl_14, nl_15, nl_16, nl_20, nl_21, nl_22, nl_23, nl_24, nl_25, nl_26, nl_27, nl_28, nl_29, nl_30, nl_31, nl_32, nl_40, nl_41, nl_42, nl_43, nl_45, nl_47, nl_48, nl_50, nl_57, nl_59, nl_60, nl_61, nl_62, nl_63, nl_64, nl_91, nl_93, nl_94, nl_97, nl_98, nl_100, nl_110, nl_122, nl_130, nl_144, nl_160, nl_240, nl_241, nl_255, nl_256, nl_400, nl_800, nl_900, nl_999, nl_1000, nl_1001, nl_1024, nl_1103, nl_1928, nl_4321, nl_5560, nl_12345, nl_1000000, nl_1000003, nl_252645135, nl_858993459, nl_1431655765, nl_1000000000, nI_add, pk_mul, n_sub, n_neg, n_cl, leT, leF, ltT, ltF, eqT, eqF, kbT, s_II, s_In, s_IJ, s_IA, s_IL, s_IR, s_IC, s_JI, s_JJ, s_Jn, s_JA, s_JL, s_JR, s_JC, s_AI, s_AJ, s_AA, s_An, s_AL, s_AR, s_AC, s_LI, s_LJ, s_LA, s_LL, s_Ln, s_LR, s_LC, g53, r0]
theorem p_evenings (x y : Int32) : Pr (f_X11_evenings x y) (f_X12_evenings x y) := by
  intro S h
  have hv := Iv.of h
  generalize hr : gA S 53 = r at hv
  have l1 : (x < nI 0) = (x.toInt < (0 : Nat)) := lt_xn x 0 (by decide)
  have l2 : (nI 1000000 < x) = ((1000000 : Nat) < x.toInt) := lt_nx x 1000000 (by decide)
  have l3 : (y < nI 1) = (y.toInt < (1 : Nat)) := lt_xn y 1 (by decide)
  have l4 : (y ≤ nI 20) = (y.toInt ≤ (20 : Nat)) := le_xn y 20 (by decide)
  by_cases c1 : 0 ≤ x.toInt ∧ x.toInt ≤ 1000000
  · by_cases c2 : 1 ≤ y.toInt ∧ y.toInt ≤ 20
    · obtain ⟨a, rfl, ha, -⟩ := rng_n (x := x) (n := 1000001) (by omega)
      obtain ⟨c, rfl, hc, -⟩ := rng_n (x := y) (n := 21) (by omega)
      have hc1 : 1 ≤ c := by have := c2.1; rw [n_ti (by omega)] at this; omega
      obtain ⟨A, a1, a2, a3, a4⟩ := e_cwrite hv.c (a := a) (c := c) (by omega) (by omega)
      obtain ⟨B, b1, b2, b3⟩ := e_upC (hv.c.fr a2 rfl rfl) a3
      have g1 : Fr evI scJ evA scL S (sI (sI B 28 (nI 1)) 32 (nI 0)) := (((a2.mono rfl rfl rfl rfl).trans (b2.mono rfl rfl rfl rfl)).sI rfl _).sI rfl _
      have g2 : Fr evI scJ evA scL S (sJ (sI (sI (sI B 28 (nI 1)) 32 (nI 0)) 33 (nI 0)) 3 (nI a).toInt64) := (g1.sI rfl _).sJ rfl _
      have hm : Ir r (sJ (sI (sI (sI B 28 (nI 1)) 32 (nI 0)) 33 (nI 0)) 3 (nI a).toInt64) := hv.r.fr g2 rfl
      obtain ⟨C, m1, m2, m3⟩ := e_mwrite hm (a := a) (c := c) (by omega) (by omega) hc1 (by rw [s_JJ, L_n (by omega)])
      have hC := hm.fr m2 rfl
      have f54 : Fr [54] [] [] [] C (sI C 54 (nI 1)) := (Fr.refl C).sI rfl _
      obtain ⟨D, d1, d2, d3⟩ := l_m223 (x := (evY r a c).2.2) a4 (hC.fr f54 rfl) m3 8 FU 0 (sI C 54 (nI 1)) (by omega) (FU_ge (by omega)) (Fr.refl _) (fun j hj => absurd hj (Nat.not_lt_zero j))
      refine ⟨nI (evY r a c).2.2, sI (sI B 28 (nI 1)) 32 (nI 0), sI D 34 (nI 0), ?_, ?_, ?_⟩
      · have e1 : f_X6_write (nI a) (nI c) S = some (nI (evY r a c).2.2, sI B 28 (nI 1)) := by
          rw [a1]
          unfold f_X6_write_88
          simp (disch := omega) only [k_let, Option.bind_some, ↓reduceIte, eq_self, true_or, or_true, n01_0, n01_1, kb_or, kb_0T, kb_0F, vn_0, vn_1, vn_k, nl_0, nl_1, nl_2, nl_3, nl_4, nl_5, nl_6, nl_7, nl_8, nl_9, nl_10, nl_11, nl_12, nl_13, nl_14, nl_15, nl_16, nl_20, nl_21, nl_22, nl_23, nl_24, nl_25, nl_26, nl_27, nl_28, nl_29, nl_30, nl_31, nl_32, nl_40, nl_41, nl_42, nl_43, nl_45, nl_47, nl_48, nl_50, nl_57, nl_59, nl_60, nl_61, nl_62, nl_63, nl_64, nl_91, nl_93, nl_94, nl_97, nl_98, nl_100, nl_110, nl_122, nl_130, nl_144, nl_160, nl_240, nl_241, nl_255, nl_256, nl_400, nl_800, nl_900, nl_999, nl_1000, nl_1001, nl_1024, nl_1103, nl_1928, nl_4321, nl_5560, nl_12345, nl_1000000, nl_1000003, nl_252645135, nl_858993459, nl_1431655765, nl_1000000000, nI_add, pk_mul, n_sub, n_neg, n_cl, leT, leF, ltT, ltF, eqT, eqF, kbT, s_II, s_In, s_IJ, s_IA, s_IL, s_IR, s_IC, s_JI, s_JJ, s_Jn, s_JA, s_JL, s_JR, s_JC, s_AI, s_AJ, s_AA, s_An, s_AL, s_AR, s_AC, s_LI, s_LJ, s_LA, s_LL, s_Ln, s_LR, s_LC, ↓b_of b1]
        unfold f_X11_evenings
        simp (disch := omega) only [k_let, Option.bind_some, ↓reduceIte, eq_self, true_or, or_true, n01_0, n01_1, kb_or, kb_0T, kb_0F, vn_0, vn_1, vn_k, nl_0, nl_1, nl_2, nl_3, nl_4, nl_5, nl_6, nl_7, nl_8, nl_9, nl_10, nl_11, nl_12, nl_13, nl_14, nl_15, nl_16, nl_20, nl_21, nl_22, nl_23, nl_24, nl_25, nl_26, nl_27, nl_28, nl_29, nl_30, nl_31, nl_32, nl_40, nl_41, nl_42, nl_43, nl_45, nl_47, nl_48, nl_50, nl_57, nl_59, nl_60, nl_61, nl_62, nl_63, nl_64, nl_91, nl_93, nl_94, nl_97, nl_98, nl_100, nl_110, nl_122, nl_130, nl_144, nl_160, nl_240, nl_241, nl_255, nl_256, nl_400, nl_800, nl_900, nl_999, nl_1000, nl_1001, nl_1024, nl_1103, nl_1928, nl_4321, nl_5560, nl_12345, nl_1000000, nl_1000003, nl_252645135, nl_858993459, nl_1431655765, nl_1000000000, nI_add, pk_mul, n_sub, n_neg, n_cl, leT, leF, ltT, ltF, eqT, eqF, kbT, s_II, s_In, s_IJ, s_IA, s_IL, s_IR, s_IC, s_JI, s_JJ, s_Jn, s_JA, s_JL, s_JR, s_JC, s_AI, s_AJ, s_AA, s_An, s_AL, s_AR, s_AC, s_LI, s_LJ, s_LA, s_LL, s_Ln, s_LR, s_LC, ↓b_of e1, e_done]
      · have x1 : ∀ T, f_X12_in (nI a).toInt64 (lZ 0) (lZ 1000000) T = some (nI 1, T) := fun T => by
          rw [e_in _ _ _ _ (by decide) (by decide) (by decide) (by decide), decide_eq_true c1, kB_t]
        have x2 : ∀ T, f_X12_in (nI c).toInt64 (lZ 1) (lZ 20) T = some (nI 1, T) := fun T => by
          rw [e_in _ _ _ _ (by decide) (by decide) (by decide) (by decide), decide_eq_true c2, kB_t]
        have e2 : f_X12_evenings_215 (nI (evY r a c).2.2) C = some (nI (evY r a c).2.2, sI D 34 (nI 0)) := by
          rw [← d1]; rfl
        unfold f_X12_evenings
        simp (disch := omega) only [k_let, Option.bind_some, ↓reduceIte, eq_self, true_or, or_true, n01_0, n01_1, kb_or, kb_0T, kb_0F, vn_0, vn_1, vn_k, nl_0, nl_1, nl_2, nl_3, nl_4, nl_5, nl_6, nl_7, nl_8, nl_9, nl_10, nl_11, nl_12, nl_13, nl_14, nl_15, nl_16, nl_20, nl_21, nl_22, nl_23, nl_24, nl_25, nl_26, nl_27, nl_28, nl_29, nl_30, nl_31, nl_32, nl_40, nl_41, nl_42, nl_43, nl_45, nl_47, nl_48, nl_50, nl_57, nl_59, nl_60, nl_61, nl_62, nl_63, nl_64, nl_91, nl_93, nl_94, nl_97, nl_98, nl_100, nl_110, nl_122, nl_130, nl_144, nl_160, nl_240, nl_241, nl_255, nl_256, nl_400, nl_800, nl_900, nl_999, nl_1000, nl_1001, nl_1024, nl_1103, nl_1928, nl_4321, nl_5560, nl_12345, nl_1000000, nl_1000003, nl_252645135, nl_858993459, nl_1431655765, nl_1000000000, ll_0, ll_1, ll_2, ll_7, ll_8, ll_9, ll_10, ll_20, ll_23, ll_24, ll_26, ll_30, ll_32, ll_48, ll_96, ll_240, ll_256, ll_294, ll_498, ll_999, ll_1000, ll_1103, ll_1476, ll_12345, ll_14836, ll_65536, ll_1000000, ll_1000003, ll_1048576, ll_1000000000, leT, leF, ltT, ltF, eqT, eqF, kbT, x1, x2, m1, e2]
      · have gE : Fr evI scJ evA scL S (sI D 34 (nI 0)) := ((((g2.trans (m2.mono rfl rfl rfl rfl)).trans (f54.mono rfl rfl rfl rfl)).trans (d2.mono rfl rfl rfl rfl))).sI rfl _
        have k28 : gI D 28 = nI 1 := by
          rw [d2.I (k := 28) rfl, f54.I (k := 28) rfl, m2.I (k := 28) rfl, s_JI]
          simp (disch := omega) only [s_II, s_In, s_IJ, s_IA, s_IL, s_IR, s_IC, s_JI, s_JJ, s_Jn, s_JA, s_JL, s_JR, s_JC, s_AI, s_AJ, s_AA, s_An, s_AL, s_AR, s_AC, s_LI, s_LJ, s_LA, s_LL, s_Ln, s_LR, s_LC]
        have k32 : gI D 32 = nI 0 := by
          rw [d2.I (k := 32) rfl, f54.I (k := 32) rfl, m2.I (k := 32) rfl, s_JI]
          simp (disch := omega) only [s_II, s_In, s_IJ, s_IA, s_IL, s_IR, s_IC, s_JI, s_JJ, s_Jn, s_JA, s_JL, s_JR, s_JC, s_AI, s_AJ, s_AA, s_An, s_AL, s_AR, s_AC, s_LI, s_LJ, s_LA, s_LL, s_Ln, s_LR, s_LC]
        have k54 : gI D 54 = nI 1 := by
          rw [d2.I (k := 54) rfl]
          simp (disch := omega) only [s_II, s_In, s_IJ, s_IA, s_IL, s_IR, s_IC, s_JI, s_JJ, s_Jn, s_JA, s_JL, s_JR, s_JC, s_AI, s_AJ, s_AA, s_An, s_AL, s_AR, s_AC, s_LI, s_LJ, s_LA, s_LL, s_Ln, s_LR, s_LC]
        have k46 : gA D 46 = gA B 46 := by
          rw [d2.A (k := 46) rfl, f54.A (k := 46) rfl, m2.A (k := 46) rfl]; rfl
        have k47 : gA D 47 = gA B 47 := by
          rw [d2.A (k := 47) rfl, f54.A (k := 47) rfl, m2.A (k := 47) rfl]; rfl
        refine h.eve gE ⟨?_, Or.inr ⟨?_, fun k hk => ?_⟩⟩ ?_
        · simp (disch := omega) only [s_II, s_In, s_IJ, s_IA, s_IL, s_IR, s_IC, s_JI, s_JJ, s_Jn, s_JA, s_JL, s_JR, s_JC, s_AI, s_AJ, s_AA, s_An, s_AL, s_AR, s_AC, s_LI, s_LJ, s_LA, s_LL, s_Ln, s_LR, s_LC, k28, k54]
        · simp (disch := omega) only [s_II, s_In, s_IJ, s_IA, s_IL, s_IR, s_IC, s_JI, s_JJ, s_Jn, s_JA, s_JL, s_JR, s_JC, s_AI, s_AJ, s_AA, s_An, s_AL, s_AR, s_AC, s_LI, s_LJ, s_LA, s_LL, s_Ln, s_LR, s_LC, k28]
        · rw [s_IA, s_IA, s_IA, k46, k47]
          obtain ⟨z1, z2⟩ := b3 k hk
          obtain ⟨z3, z4⟩ := d3 k hk
          have bd := orO_bd hv.wf (evY r a c).1 k (d := nD r) (Nat.le_refl _)
          have zr : rN (gA B 47) k = orO r (evY r a c).1 k (nD r) := by
            unfold rN; rw [z2, n_cl (by omega)]
          refine ⟨by rw [z1, z3], ⟨by rw [zr, z2], by rw [zr]; exact bd⟩, by rw [zr, z4]⟩
        · simp (disch := omega) only [s_II, s_In, s_IJ, s_IA, s_IL, s_IR, s_IC, s_JI, s_JJ, s_Jn, s_JA, s_JL, s_JR, s_JC, s_AI, s_AJ, s_AA, s_An, s_AL, s_AR, s_AC, s_LI, s_LJ, s_LA, s_LL, s_Ln, s_LR, s_LC, k32]
    · refine ⟨iZ (-((1 : Nat) : Int)), rfT (iZ (-((1 : Nat) : Int))) 0 S, tlT (iZ (-((1 : Nat) : Int))) 1 (sI (rfT (iZ (-((1 : Nat) : Int))) 0 S) 33 (nI 0)), ?_, ?_, h.refuse _ 0 1 (by decide)⟩
      · unfold f_X11_evenings f_X11_evenings_22
        by_cases c3 : y.toInt < (1 : Nat)
        · simp (disch := omega) only [k_let, Option.bind_some, ↓reduceIte, eq_self, true_or, or_true, n01_0, n01_1, kb_or, kb_0T, kb_0F, vn_0, vn_1, vn_k, nl_0, nl_1, nl_2, nl_3, nl_4, nl_5, nl_6, nl_7, nl_8, nl_9, nl_10, nl_11, nl_12, nl_13, nl_14, nl_15, nl_16, nl_20, nl_21, nl_22, nl_23, nl_24, nl_25, nl_26, nl_27, nl_28, nl_29, nl_30, nl_31, nl_32, nl_40, nl_41, nl_42, nl_43, nl_45, nl_47, nl_48, nl_50, nl_57, nl_59, nl_60, nl_61, nl_62, nl_63, nl_64, nl_91, nl_93, nl_94, nl_97, nl_98, nl_100, nl_110, nl_122, nl_130, nl_144, nl_160, nl_240, nl_241, nl_255, nl_256, nl_400, nl_800, nl_900, nl_999, nl_1000, nl_1001, nl_1024, nl_1103, nl_1928, nl_4321, nl_5560, nl_12345, nl_1000000, nl_1000003, nl_252645135, nl_858993459, nl_1431655765, nl_1000000000, nI_add, pk_mul, n_sub, n_neg, n_cl, leT, leF, ltT, ltF, eqT, eqF, kbT, s_II, s_In, s_IJ, s_IA, s_IL, s_IR, s_IC, s_JI, s_JJ, s_Jn, s_JA, s_JL, s_JR, s_JC, s_AI, s_AJ, s_AA, s_An, s_AL, s_AR, s_AC, s_LI, s_LJ, s_LA, s_LL, s_Ln, s_LR, s_LC, zleT, zleF, zltT, zltF, zeqT, zeqF, nzleT, nzleF, nzltT, nzltF, nzeqT, nzeqF, znleT, znleF, znltT, znltF, zneqT, zneqF, z_add, z_sub, z_mul, z_neg, z_an, z_na, z_sn, z_ns, z_mn, z_nm, Nat.add_sub_cancel, decide_true, decide_false, and_self, e_done, e_ref1, e_ref2, e_ref3, e_ref5, e_ref6, e_tel1, e_tel2, e_tel3, e_tel5, e_tel6, e_telN, rfT_m, l1, l2, l3, l4, c3, show ¬ x.toInt < (0 : Nat) by omega, show ¬ (1000000 : Nat) < x.toInt by omega]
        · simp (disch := omega) only [k_let, Option.bind_some, ↓reduceIte, eq_self, true_or, or_true, n01_0, n01_1, kb_or, kb_0T, kb_0F, vn_0, vn_1, vn_k, nl_0, nl_1, nl_2, nl_3, nl_4, nl_5, nl_6, nl_7, nl_8, nl_9, nl_10, nl_11, nl_12, nl_13, nl_14, nl_15, nl_16, nl_20, nl_21, nl_22, nl_23, nl_24, nl_25, nl_26, nl_27, nl_28, nl_29, nl_30, nl_31, nl_32, nl_40, nl_41, nl_42, nl_43, nl_45, nl_47, nl_48, nl_50, nl_57, nl_59, nl_60, nl_61, nl_62, nl_63, nl_64, nl_91, nl_93, nl_94, nl_97, nl_98, nl_100, nl_110, nl_122, nl_130, nl_144, nl_160, nl_240, nl_241, nl_255, nl_256, nl_400, nl_800, nl_900, nl_999, nl_1000, nl_1001, nl_1024, nl_1103, nl_1928, nl_4321, nl_5560, nl_12345, nl_1000000, nl_1000003, nl_252645135, nl_858993459, nl_1431655765, nl_1000000000, nI_add, pk_mul, n_sub, n_neg, n_cl, leT, leF, ltT, ltF, eqT, eqF, kbT, s_II, s_In, s_IJ, s_IA, s_IL, s_IR, s_IC, s_JI, s_JJ, s_Jn, s_JA, s_JL, s_JR, s_JC, s_AI, s_AJ, s_AA, s_An, s_AL, s_AR, s_AC, s_LI, s_LJ, s_LA, s_LL, s_Ln, s_LR, s_LC, zleT, zleF, zltT, zltF, zeqT, zeqF, nzleT, nzleF, nzltT, nzltF, nzeqT, nzeqF, znleT, znleF, znltT, znltF, zneqT, zneqF, z_add, z_sub, z_mul, z_neg, z_an, z_na, z_sn, z_ns, z_mn, z_nm, Nat.add_sub_cancel, decide_true, decide_false, and_self, e_done, e_ref1, e_ref2, e_ref3, e_ref5, e_ref6, e_tel1, e_tel2, e_tel3, e_tel5, e_tel6, e_telN, rfT_m, l1, l2, l3, l4, c3, show ¬ x.toInt < (0 : Nat) by omega, show ¬ (1000000 : Nat) < x.toInt by omega, show ¬ y.toInt ≤ (20 : Nat) by omega]
      · unfold f_X12_evenings f_X12_evenings_29
        simp (disch := omega) only [k_let, Option.bind_some, ↓reduceIte, eq_self, true_or, or_true, n01_0, n01_1, kb_or, kb_0T, kb_0F, vn_0, vn_1, vn_k, nl_0, nl_1, nl_2, nl_3, nl_4, nl_5, nl_6, nl_7, nl_8, nl_9, nl_10, nl_11, nl_12, nl_13, nl_14, nl_15, nl_16, nl_20, nl_21, nl_22, nl_23, nl_24, nl_25, nl_26, nl_27, nl_28, nl_29, nl_30, nl_31, nl_32, nl_40, nl_41, nl_42, nl_43, nl_45, nl_47, nl_48, nl_50, nl_57, nl_59, nl_60, nl_61, nl_62, nl_63, nl_64, nl_91, nl_93, nl_94, nl_97, nl_98, nl_100, nl_110, nl_122, nl_130, nl_144, nl_160, nl_240, nl_241, nl_255, nl_256, nl_400, nl_800, nl_900, nl_999, nl_1000, nl_1001, nl_1024, nl_1103, nl_1928, nl_4321, nl_5560, nl_12345, nl_1000000, nl_1000003, nl_252645135, nl_858993459, nl_1431655765, nl_1000000000, nI_add, pk_mul, n_sub, n_neg, n_cl, leT, leF, ltT, ltF, eqT, eqF, kbT, s_II, s_In, s_IJ, s_IA, s_IL, s_IR, s_IC, s_JI, s_JJ, s_Jn, s_JA, s_JL, s_JR, s_JC, s_AI, s_AJ, s_AA, s_An, s_AL, s_AR, s_AC, s_LI, s_LJ, s_LA, s_LL, s_Ln, s_LR, s_LC, zleT, zleF, zltT, zltF, zeqT, zeqF, nzleT, nzleF, nzltT, nzltF, nzeqT, nzeqF, znleT, znleF, znltT, znltF, zneqT, zneqF, z_add, z_sub, z_mul, z_neg, z_an, z_na, z_sn, z_ns, z_mn, z_nm, Nat.add_sub_cancel, decide_true, decide_false, and_self, e_done, e_ref1, e_ref2, e_ref3, e_ref5, e_ref6, e_tel1, e_tel2, e_tel3, e_tel5, e_tel6, e_telN, rfT_m, ll_0, ll_1, ll_2, ll_7, ll_8, ll_9, ll_10, ll_20, ll_23, ll_24, ll_26, ll_30, ll_32, ll_48, ll_96, ll_240, ll_256, ll_294, ll_498, ll_999, ll_1000, ll_1103, ll_1476, ll_12345, ll_14836, ll_65536, ll_1000000, ll_1000003, ll_1048576, ll_1000000000, e_in, decide_eq_true c1, decide_eq_false c2, kB_t, kB_f]
  · refine ⟨iZ (-((1 : Nat) : Int)), rfT (iZ (-((1 : Nat) : Int))) 0 S, tlT (iZ (-((1 : Nat) : Int))) 1 (sI (rfT (iZ (-((1 : Nat) : Int))) 0 S) 33 (nI 0)), ?_, ?_, h.refuse _ 0 1 (by decide)⟩
    · unfold f_X11_evenings f_X11_evenings_22
      by_cases c3 : x.toInt < (0 : Nat)
      · simp (disch := omega) only [k_let, Option.bind_some, ↓reduceIte, eq_self, true_or, or_true, n01_0, n01_1, kb_or, kb_0T, kb_0F, vn_0, vn_1, vn_k, nl_0, nl_1, nl_2, nl_3, nl_4, nl_5, nl_6, nl_7, nl_8, nl_9, nl_10, nl_11, nl_12, nl_13, nl_14, nl_15, nl_16, nl_20, nl_21, nl_22, nl_23, nl_24, nl_25, nl_26, nl_27, nl_28, nl_29, nl_30, nl_31, nl_32, nl_40, nl_41, nl_42, nl_43, nl_45, nl_47, nl_48, nl_50, nl_57, nl_59, nl_60, nl_61, nl_62, nl_63, nl_64, nl_91, nl_93, nl_94, nl_97, nl_98, nl_100, nl_110, nl_122, nl_130, nl_144, nl_160, nl_240, nl_241, nl_255, nl_256, nl_400, nl_800, nl_900, nl_999, nl_1000, nl_1001, nl_1024, nl_1103, nl_1928, nl_4321, nl_5560, nl_12345, nl_1000000, nl_1000003, nl_252645135, nl_858993459, nl_1431655765, nl_1000000000, nI_add, pk_mul, n_sub, n_neg, n_cl, leT, leF, ltT, ltF, eqT, eqF, kbT, s_II, s_In, s_IJ, s_IA, s_IL, s_IR, s_IC, s_JI, s_JJ, s_Jn, s_JA, s_JL, s_JR, s_JC, s_AI, s_AJ, s_AA, s_An, s_AL, s_AR, s_AC, s_LI, s_LJ, s_LA, s_LL, s_Ln, s_LR, s_LC, zleT, zleF, zltT, zltF, zeqT, zeqF, nzleT, nzleF, nzltT, nzltF, nzeqT, nzeqF, znleT, znleF, znltT, znltF, zneqT, zneqF, z_add, z_sub, z_mul, z_neg, z_an, z_na, z_sn, z_ns, z_mn, z_nm, Nat.add_sub_cancel, decide_true, decide_false, and_self, e_done, e_ref1, e_ref2, e_ref3, e_ref5, e_ref6, e_tel1, e_tel2, e_tel3, e_tel5, e_tel6, e_telN, rfT_m, l1, l2, c3]
      · simp (disch := omega) only [k_let, Option.bind_some, ↓reduceIte, eq_self, true_or, or_true, n01_0, n01_1, kb_or, kb_0T, kb_0F, vn_0, vn_1, vn_k, nl_0, nl_1, nl_2, nl_3, nl_4, nl_5, nl_6, nl_7, nl_8, nl_9, nl_10, nl_11, nl_12, nl_13, nl_14, nl_15, nl_16, nl_20, nl_21, nl_22, nl_23, nl_24, nl_25, nl_26, nl_27, nl_28, nl_29, nl_30, nl_31, nl_32, nl_40, nl_41, nl_42, nl_43, nl_45, nl_47, nl_48, nl_50, nl_57, nl_59, nl_60, nl_61, nl_62, nl_63, nl_64, nl_91, nl_93, nl_94, nl_97, nl_98, nl_100, nl_110, nl_122, nl_130, nl_144, nl_160, nl_240, nl_241, nl_255, nl_256, nl_400, nl_800, nl_900, nl_999, nl_1000, nl_1001, nl_1024, nl_1103, nl_1928, nl_4321, nl_5560, nl_12345, nl_1000000, nl_1000003, nl_252645135, nl_858993459, nl_1431655765, nl_1000000000, nI_add, pk_mul, n_sub, n_neg, n_cl, leT, leF, ltT, ltF, eqT, eqF, kbT, s_II, s_In, s_IJ, s_IA, s_IL, s_IR, s_IC, s_JI, s_JJ, s_Jn, s_JA, s_JL, s_JR, s_JC, s_AI, s_AJ, s_AA, s_An, s_AL, s_AR, s_AC, s_LI, s_LJ, s_LA, s_LL, s_Ln, s_LR, s_LC, zleT, zleF, zltT, zltF, zeqT, zeqF, nzleT, nzleF, nzltT, nzltF, nzeqT, nzeqF, znleT, znleF, znltT, znltF, zneqT, zneqF, z_add, z_sub, z_mul, z_neg, z_an, z_na, z_sn, z_ns, z_mn, z_nm, Nat.add_sub_cancel, decide_true, decide_false, and_self, e_done, e_ref1, e_ref2, e_ref3, e_ref5, e_ref6, e_tel1, e_tel2, e_tel3, e_tel5, e_tel6, e_telN, rfT_m, l1, l2, c3, show (1000000 : Nat) < x.toInt by omega]
    · unfold f_X12_evenings f_X12_evenings_29
      simp (disch := omega) only [k_let, Option.bind_some, ↓reduceIte, eq_self, true_or, or_true, n01_0, n01_1, kb_or, kb_0T, kb_0F, vn_0, vn_1, vn_k, nl_0, nl_1, nl_2, nl_3, nl_4, nl_5, nl_6, nl_7, nl_8, nl_9, nl_10, nl_11, nl_12, nl_13, nl_14, nl_15, nl_16, nl_20, nl_21, nl_22, nl_23, nl_24, nl_25, nl_26, nl_27, nl_28, nl_29, nl_30, nl_31, nl_32, nl_40, nl_41, nl_42, nl_43, nl_45, nl_47, nl_48, nl_50, nl_57, nl_59, nl_60, nl_61, nl_62, nl_63, nl_64, nl_91, nl_93, nl_94, nl_97, nl_98, nl_100, nl_110, nl_122, nl_130, nl_144, nl_160, nl_240, nl_241, nl_255, nl_256, nl_400, nl_800, nl_900, nl_999, nl_1000, nl_1001, nl_1024, nl_1103, nl_1928, nl_4321, nl_5560, nl_12345, nl_1000000, nl_1000003, nl_252645135, nl_858993459, nl_1431655765, nl_1000000000, nI_add, pk_mul, n_sub, n_neg, n_cl, leT, leF, ltT, ltF, eqT, eqF, kbT, s_II, s_In, s_IJ, s_IA, s_IL, s_IR, s_IC, s_JI, s_JJ, s_Jn, s_JA, s_JL, s_JR, s_JC, s_AI, s_AJ, s_AA, s_An, s_AL, s_AR, s_AC, s_LI, s_LJ, s_LA, s_LL, s_Ln, s_LR, s_LC, zleT, zleF, zltT, zltF, zeqT, zeqF, nzleT, nzleF, nzltT, nzltF, nzeqT, nzeqF, znleT, znleF, znltT, znltF, zneqT, zneqF, z_add, z_sub, z_mul, z_neg, z_an, z_na, z_sn, z_ns, z_mn, z_nm, Nat.add_sub_cancel, decide_true, decide_false, and_self, e_done, e_ref1, e_ref2, e_ref3, e_ref5, e_ref6, e_tel1, e_tel2, e_tel3, e_tel5, e_tel6, e_telN, rfT_m, ll_0, ll_1, ll_2, ll_7, ll_8, ll_9, ll_10, ll_20, ll_23, ll_24, ll_26, ll_30, ll_32, ll_48, ll_96, ll_240, ll_256, ll_294, ll_498, ll_999, ll_1000, ll_1103, ll_1476, ll_12345, ll_14836, ll_65536, ll_1000000, ll_1000003, ll_1048576, ll_1000000000, e_in, decide_eq_false c1, kB_f]
