/-! part 87: the evenings' loops -/
def upN (O : Nat → Nat) (j w : Nat) : Nat → Nat := fun e => if e = j then w else O e
def ev1 (r : Nat → Int32) (x : (Nat → Nat) × Nat × Nat) : (Nat → Nat) × Nat × Nat :=
  if lwF (tkP r x.1 (nx x.2.1 % 8) (nx (nx x.2.1) % rN r 0)) (nD r) 0 < nD r then
    (upN x.1 (lwF (tkP r x.1 (nx x.2.1 % 8) (nx (nx x.2.1) % rN r 0)) (nD r) 0) (nx x.2.1 % 8), nx (nx x.2.1), x.2.2 + 1)
  else (x.1, nx (nx x.2.1), x.2.2)
def evS (r : Nat → Int32) : Nat → (Nat → Nat) × Nat × Nat → (Nat → Nat) × Nat × Nat
  | 0, x => x
  | m + 1, x => evS r m (ev1 r x)
theorem upN_row {n k : Nat} {A : Nat → Int32} {O : Nat → Nat} {j w : Nat} (hw : w < 8) (h : ∀ e, e < n → A e = nI (O e) ∧ O e < 8) : ∀ e, e < n → upd A j (nI w) e = nI (upN O j w e) ∧ upN O j w e < 8 := by
  intro e he
  unfold upN
  by_cases q : e = j
  · rw [q, u_s, if_pos rfl]; exact ⟨rfl, hw⟩
  · rw [u_n q, if_neg q]; exact h e he
theorem l_c38 {r : Nat → Int32} {c : Nat} (hc : c ≤ 20) (h0 : 0 < rN r 0) : ∀ (m f i : Nat) (x : (Nat → Nat) × Nat × Nat) (U : St), i + m = 6 * c → m < f → Ic r U → gI U 29 = nI x.2.1 → x.2.1 ≤ 1000002 → (∀ e, e < nD r → gA U 45 e = nI (x.1 e) ∧ x.1 e < 8) → x.2.2 ≤ i →
    ∃ W, f_X6_write_38 f (nI c) (nI x.2.2) (nI i) U = f_X6_write_88 (nI (evS r m x).2.2) W ∧ Fr [29] [] [45] [] U W ∧ (∀ e, e < nD r → gA W 45 e = nI ((evS r m x).1 e) ∧ (evS r m x).1 e < 8) ∧ (evS r m x).2.2 ≤ 120 := by
  intro m
  induction m with
  | zero =>
    intro f i x U hi hf hU hs hb hR hw
    obtain ⟨f, rfl⟩ : ∃ g, f = g + 1 := ⟨f - 1, by omega⟩
    refine ⟨U, ?_, Fr.refl _, hR, ?_⟩
    · rw [f_X6_write_38]
      simp (disch := omega) only [k_let, Option.bind_some, ↓reduceIte, eq_self, true_or, or_true, n01_0, n01_1, kb_or, kb_0T, kb_0F, vn_0, vn_1, vn_k, nl_0, nl_1, nl_2, nl_3, nl_4, nl_5, nl_6, nl_7, nl_8, nl_9, nl_10, nl_11, nl_12, nl_13, nl_14, nl_15, nl_16, nl_20, nl_21, nl_22, nl_23, nl_24, nl_25, nl_26, nl_27, nl_28, nl_29, nl_30, nl_31, nl_32, nl_40, nl_41, nl_42, nl_43, nl_45, nl_47, nl_48, nl_50, nl_57, nl_59, nl_60, nl_61, nl_62, nl_63, nl_64, nl_91, nl_93, nl_94, nl_97, nl_98, nl_100, nl_110, nl_122, nl_130, nl_144, nl_160, nl_240, nl_241, nl_255, nl_256, nl_400, nl_800, nl_900, nl_999, nl_1000, nl_1001, nl_1024, nl_1103, nl_1928, nl_4321, nl_5560, nl_12345, nl_1000000, nl_1000003, nl_252645135, nl_858993459, nl_1431655765, nl_1000000000, nI_add, pk_mul, n_sub, n_neg, n_cl, leT, leF, ltT, ltF, eqT, eqF, kbT, s_II, s_In, s_IJ, s_IA, s_IL, s_IR, s_IC, s_JI, s_JJ, s_Jn, s_JA, s_JL, s_JR, s_JC, s_AI, s_AJ, s_AA, s_An, s_AL, s_AR, s_AC, s_LI, s_LJ, s_LA, s_LL, s_Ln, s_LR, s_LC]
      rfl
    · show x.2.2 ≤ 120
      omega
  | succ m ih =>
    intro f i x U hi hf hU hs hb hR hw
    obtain ⟨f, rfl⟩ : ∃ g, f = g + 1 := ⟨f - 1, by omega⟩
    have t6 := hU.1.t6
    have b1 := nx_lt x.2.1
    have b2 := nx_lt (nx x.2.1)
    have w8 : nx x.2.1 % 8 < 8 := Nat.mod_lt _ (by decide)
    have t8 : nx (nx x.2.1) % rN r 0 < rN r 0 := Nat.mod_lt _ h0
    have d1 := e_cdraw (m := 8) hb (by omega) (by omega) hs
    have f1 : Fr [29] [] [45] [] U (sI U 29 (nI (nx x.2.1))) := (Fr.refl U).sI rfl _
    have hU1 := hU.fr f1 rfl rfl
    have d2 := e_cdraw (m := rN r 0) (s := nx x.2.1) (S := sI U 29 (nI (nx x.2.1))) (by omega) h0 (by omega) (s_II _ _ _)
    have f2 := f1.sI (k := 29) rfl (nI (nx (nx x.2.1)))
    have hU2 := hU.fr f2 rfl rfl
    have i0 := hU1.I0
    have d3 := l_takes (w := nx x.2.1 % 8) (t := nx (nx x.2.1) % rN r 0) hU2 w8 (by omega) (O := x.1) hR (nD r) FU 0 (by omega) (FU_ge (by have := hU.1.n16; omega))
    have e0 : evS r (m + 1) x = evS r m (ev1 r x) := rfl
    by_cases q : lwF (tkP r x.1 (nx x.2.1 % 8) (nx (nx x.2.1) % rN r 0)) (nD r) 0 < nD r
    · have e1 : ev1 r x = (upN x.1 (lwF (tkP r x.1 (nx x.2.1 % 8) (nx (nx x.2.1) % rN r 0)) (nD r) 0) (nx x.2.1 % 8), nx (nx x.2.1), x.2.2 + 1) := if_pos q
      rw [if_pos q] at d3
      generalize lwF (tkP r x.1 (nx x.2.1 % 8) (nx (nx x.2.1) % rN r 0)) (nD r) 0 = j at *
      have f3 := f2.sA (k := 45) rfl j (nI (nx x.2.1 % 8))
      obtain ⟨W, a1, a2, a3, a4⟩ := ih f (i + 1) (ev1 r x) (sA (sI (sI U 29 (nI (nx x.2.1))) 29 (nI (nx (nx x.2.1)))) 45 j (nI (nx x.2.1 % 8))) (by omega) (by omega) (hU.fr f3 rfl rfl) (by rw [e1, s_AI]; exact s_II _ _ _) (by rw [e1]; show nx (nx x.2.1) ≤ 1000002; omega) (by rw [e1, s_AA]; exact upN_row (k := 0) w8 hR) (by rw [e1]; show x.2.2 + 1 ≤ i + 1; omega)
      refine ⟨W, ?_, f3.trans a2, a3, a4⟩
      have ew : (ev1 r x).2.2 = x.2.2 + 1 := by rw [e1]
      rw [e0, ← a1, ew, f_X6_write_38]
      have ed : f_X6_takesOver (nI (nx x.2.1 % 8)) (nI (nx (nx x.2.1) % rN r 0)) (sI (sI U 29 (nI (nx x.2.1))) 29 (nI (nx (nx x.2.1)))) = _ := d3
      simp (disch := omega) only [k_let, Option.bind_some, ↓reduceIte, eq_self, true_or, or_true, n01_0, n01_1, kb_or, kb_0T, kb_0F, vn_0, vn_1, vn_k, nl_0, nl_1, nl_2, nl_3, nl_4, nl_5, nl_6, nl_7, nl_8, nl_9, nl_10, nl_11, nl_12, nl_13, nl_14, nl_15, nl_16, nl_20, nl_21, nl_22, nl_23, nl_24, nl_25, nl_26, nl_27, nl_28, nl_29, nl_30, nl_31, nl_32, nl_40, nl_41, nl_42, nl_43, nl_45, nl_47, nl_48, nl_50, nl_57, nl_59, nl_60, nl_61, nl_62, nl_63, nl_64, nl_91, nl_93, nl_94, nl_97, nl_98, nl_100, nl_110, nl_122, nl_130, nl_144, nl_160, nl_240, nl_241, nl_255, nl_256, nl_400, nl_800, nl_900, nl_999, nl_1000, nl_1001, nl_1024, nl_1103, nl_1928, nl_4321, nl_5560, nl_12345, nl_1000000, nl_1000003, nl_252645135, nl_858993459, nl_1431655765, nl_1000000000, nI_add, pk_mul, n_sub, n_neg, n_cl, leT, leF, ltT, ltF, eqT, eqF, kbT, s_II, s_In, s_IJ, s_IA, s_IL, s_IR, s_IC, s_JI, s_JJ, s_Jn, s_JA, s_JL, s_JR, s_JC, s_AI, s_AJ, s_AA, s_An, s_AL, s_AR, s_AC, s_LI, s_LJ, s_LA, s_LL, s_Ln, s_LR, s_LC, ↓b_of d1, i0, ↓b_of d2, ↓b_of ed, f_X6_write_82]
    · have e1 : ev1 r x = (x.1, nx (nx x.2.1), x.2.2) := if_neg q
      rw [if_neg q] at d3
      obtain ⟨W, a1, a2, a3, a4⟩ := ih f (i + 1) (ev1 r x) (sI (sI U 29 (nI (nx x.2.1))) 29 (nI (nx (nx x.2.1)))) (by omega) (by omega) hU2 (by rw [e1]; exact s_II _ _ _) (by rw [e1]; show nx (nx x.2.1) ≤ 1000002; omega) (by rw [e1]; exact hR) (by rw [e1]; show x.2.2 ≤ i + 1; omega)
      refine ⟨W, ?_, f2.trans a2, a3, a4⟩
      have ew : (ev1 r x).2.2 = x.2.2 := by rw [e1]
      rw [e0, ← a1, ew, f_X6_write_38]
      have ed : f_X6_takesOver (nI (nx x.2.1 % 8)) (nI (nx (nx x.2.1) % rN r 0)) (sI (sI U 29 (nI (nx x.2.1))) 29 (nI (nx (nx x.2.1)))) = _ := d3
      simp (disch := omega) only [k_let, Option.bind_some, ↓reduceIte, eq_self, true_or, or_true, n01_0, n01_1, kb_or, kb_0T, kb_0F, vn_0, vn_1, vn_k, nl_0, nl_1, nl_2, nl_3, nl_4, nl_5, nl_6, nl_7, nl_8, nl_9, nl_10, nl_11, nl_12, nl_13, nl_14, nl_15, nl_16, nl_20, nl_21, nl_22, nl_23, nl_24, nl_25, nl_26, nl_27, nl_28, nl_29, nl_30, nl_31, nl_32, nl_40, nl_41, nl_42, nl_43, nl_45, nl_47, nl_48, nl_50, nl_57, nl_59, nl_60, nl_61, nl_62, nl_63, nl_64, nl_91, nl_93, nl_94, nl_97, nl_98, nl_100, nl_110, nl_122, nl_130, nl_144, nl_160, nl_240, nl_241, nl_255, nl_256, nl_400, nl_800, nl_900, nl_999, nl_1000, nl_1001, nl_1024, nl_1103, nl_1928, nl_4321, nl_5560, nl_12345, nl_1000000, nl_1000003, nl_252645135, nl_858993459, nl_1431655765, nl_1000000000, nI_add, pk_mul, n_sub, n_neg, n_cl, leT, leF, ltT, ltF, eqT, eqF, kbT, s_II, s_In, s_IJ, s_IA, s_IL, s_IR, s_IC, s_JI, s_JJ, s_Jn, s_JA, s_JL, s_JR, s_JC, s_AI, s_AJ, s_AA, s_An, s_AL, s_AR, s_AC, s_LI, s_LJ, s_LA, s_LL, s_Ln, s_LR, s_LC, ↓b_of d1, i0, ↓b_of d2, ↓b_of ed, f_X6_write_82]
theorem l_m74 {r : Nat → Int32} {c : Nat} (hc : c ≤ 20) (h0 : 0 < rN r 0) : ∀ (m f i : Nat) (x : (Nat → Nat) × Nat × Nat) (U : St), i + m = 6 * c → m < f → Ir r U → gJ U 3 = lZ (x.2.1 : Int) → x.2.1 ≤ 1000002 → (∀ e, e < nD r → gA U 79 e = nI (x.1 e) ∧ x.1 e < 8) → x.2.2 ≤ i →
    ∃ W, f_X12_evenings_74 f (nI c) (nI x.2.2) (nI i) U = f_X12_evenings_215 (nI (evS r m x).2.2) W ∧ Fr [] [3] [79] [] U W ∧ (∀ e, e < nD r → gA W 79 e = nI ((evS r m x).1 e) ∧ (evS r m x).1 e < 8) := by
  intro m
  induction m with
  | zero =>
    intro f i x U hi hf hU hs hb hR hw
    obtain ⟨f, rfl⟩ : ∃ g, f = g + 1 := ⟨f - 1, by omega⟩
    refine ⟨U, ?_, Fr.refl _, hR⟩
    rw [f_X12_evenings_74]
    simp (disch := omega) only [k_let, Option.bind_some, ↓reduceIte, eq_self, true_or, or_true, n01_0, n01_1, kb_or, kb_0T, kb_0F, vn_0, vn_1, vn_k, nl_0, nl_1, nl_2, nl_3, nl_4, nl_5, nl_6, nl_7, nl_8, nl_9, nl_10, nl_11, nl_12, nl_13, nl_14, nl_15, nl_16, nl_20, nl_21, nl_22, nl_23, nl_24, nl_25, nl_26, nl_27, nl_28, nl_29, nl_30, nl_31, nl_32, nl_40, nl_41, nl_42, nl_43, nl_45, nl_47, nl_48, nl_50, nl_57, nl_59, nl_60, nl_61, nl_62, nl_63, nl_64, nl_91, nl_93, nl_94, nl_97, nl_98, nl_100, nl_110, nl_122, nl_130, nl_144, nl_160, nl_240, nl_241, nl_255, nl_256, nl_400, nl_800, nl_900, nl_999, nl_1000, nl_1001, nl_1024, nl_1103, nl_1928, nl_4321, nl_5560, nl_12345, nl_1000000, nl_1000003, nl_252645135, nl_858993459, nl_1431655765, nl_1000000000, nI_add, pk_mul, n_sub, n_neg, n_cl, leT, leF, ltT, ltF, eqT, eqF, kbT, s_II, s_In, s_IJ, s_IA, s_IL, s_IR, s_IC, s_JI, s_JJ, s_Jn, s_JA, s_JL, s_JR, s_JC, s_AI, s_AJ, s_AA, s_An, s_AL, s_AR, s_AC, s_LI, s_LJ, s_LA, s_LL, s_Ln, s_LR, s_LC]
    rfl
  | succ m ih =>
    intro f i x U hi hf hU hs hb hR hw
    obtain ⟨f, rfl⟩ : ∃ g, f = g + 1 := ⟨f - 1, by omega⟩
    have t6 := hU.1.t6
    have h16 := hU.1.n16
    have b1 := nx_lt x.2.1
    have b2 := nx_lt (nx x.2.1)
    have w8 : nx x.2.1 % 8 < 8 := Nat.mod_lt _ (by decide)
    have t8 : nx (nx x.2.1) % rN r 0 < rN r 0 := Nat.mod_lt _ h0
    have d1 := e_mdraw (m := 8) hb (by omega) (by omega) hs
    have f1 : Fr [] [3] [79] [] U (sJ U 3 (lZ ((nx x.2.1 : Nat) : Int))) := (Fr.refl U).sJ rfl _
    have d2 := e_mdraw (m := rN r 0) (s := nx x.2.1) (S := sJ U 3 (lZ ((nx x.2.1 : Nat) : Int))) (by omega) h0 (by omega) (s_JJ _ _ _)
    have f2 := f1.sJ (k := 3) rfl (lZ ((nx (nx x.2.1) : Nat) : Int))
    have hU2 := hU.fr f2 rfl
    have d3 := l_m123 (w := nx x.2.1 % 8) (t := nx (nx x.2.1) % rN r 0) (K := f_X12_evenings_74 f) (x2 := nI c) (x3 := nI x.2.2) (x4 := nI i) hU2 w8 (by omega) (O := x.1) hR (nD r) FU (Nat.le_refl _) (FU_ge (by omega))
    have ex : xvF (tkP r x.1 (nx x.2.1 % 8) (nx (nx x.2.1) % rN r 0)) (nD r) (nD r) = iZ (-((1 : Nat) : Int)) := by
      unfold xvF
      rw [Nat.sub_self]
      exact if_neg (Nat.lt_irrefl _)
    rw [ex] at d3
    have ez : nI (nD r) + iZ (-((1 : Nat) : Int)) = iZ ((nD r : Int) + -((1 : Nat) : Int)) := z_na _ _
    have es : nI (nD r) - nI 1 = iZ ((nD r : Int) + -((1 : Nat) : Int)) := by
      rw [n_Z (nD r), n_Z 1, z_sub, Int.sub_eq_add_neg]
    have r0 : r 0 = nI (rN r 0) := hU.1.r0
    have g53 : gA U 53 = r := hU.m
    have pn := e_m_n hU2
    have e0 : evS r (m + 1) x = evS r m (ev1 r x) := rfl
    by_cases q : lwF (tkP r x.1 (nx x.2.1 % 8) (nx (nx x.2.1) % rN r 0)) (nD r) 0 < nD r
    · have e1 : ev1 r x = (upN x.1 (lwF (tkP r x.1 (nx x.2.1 % 8) (nx (nx x.2.1) % rN r 0)) (nD r) 0) (nx x.2.1 % 8), nx (nx x.2.1), x.2.2 + 1) := if_pos q
      rw [if_pos q] at d3
      generalize lwF (tkP r x.1 (nx x.2.1 % 8) (nx (nx x.2.1) % rN r 0)) (nD r) 0 = j at *
      have f3 := f2.sA (k := 79) rfl j (nI (nx x.2.1 % 8))
      obtain ⟨W, a1, a2, a3⟩ := ih f (i + 1) (ev1 r x) (sA (sJ (sJ U 3 (lZ ((nx x.2.1 : Nat) : Int))) 3 (lZ ((nx (nx x.2.1) : Nat) : Int))) 79 j (nI (nx x.2.1 % 8))) (by omega) (by omega) (hU.fr f3 rfl) (by rw [e1, s_AJ]; exact s_JJ _ _ _) (by rw [e1]; show nx (nx x.2.1) ≤ 1000002; omega) (by rw [e1, s_AA]; exact upN_row (k := 0) w8 hR) (by rw [e1]; show x.2.2 + 1 ≤ i + 1; omega)
      refine ⟨W, ?_, f3.trans a2, a3⟩
      have ew : (ev1 r x).2.2 = x.2.2 + 1 := by rw [e1]
      rw [e0, ← a1, ew, f_X12_evenings_74]
      simp (disch := omega) only [k_let, Option.bind_some, ↓reduceIte, eq_self, true_or, or_true, n01_0, n01_1, kb_or, kb_0T, kb_0F, vn_0, vn_1, vn_k, nl_0, nl_1, nl_2, nl_3, nl_4, nl_5, nl_6, nl_7, nl_8, nl_9, nl_10, nl_11, nl_12, nl_13, nl_14, nl_15, nl_16, nl_20, nl_21, nl_22, nl_23, nl_24, nl_25, nl_26, nl_27, nl_28, nl_29, nl_30, nl_31, nl_32, nl_40, nl_41, nl_42, nl_43, nl_45, nl_47, nl_48, nl_50, nl_57, nl_59, nl_60, nl_61, nl_62, nl_63, nl_64, nl_91, nl_93, nl_94, nl_97, nl_98, nl_100, nl_110, nl_122, nl_130, nl_144, nl_160, nl_240, nl_241, nl_255, nl_256, nl_400, nl_800, nl_900, nl_999, nl_1000, nl_1001, nl_1024, nl_1103, nl_1928, nl_4321, nl_5560, nl_12345, nl_1000000, nl_1000003, nl_252645135, nl_858993459, nl_1431655765, nl_1000000000, nI_add, pk_mul, n_neg, n_cl, leT, leF, ltT, ltF, eqT, eqF, kbT, s_II, s_In, s_IJ, s_IA, s_IL, s_IR, s_IC, s_JI, s_JJ, s_Jn, s_JA, s_JL, s_JR, s_JC, s_AI, s_AJ, s_AA, s_An, s_AL, s_AR, s_AC, s_LI, s_LJ, s_LA, s_LL, s_Ln, s_LR, s_LC, ↓b_of d1, g53, r0, ↓b_of d2, ↓b_of pn, es, d3]
    · have e1 : ev1 r x = (x.1, nx (nx x.2.1), x.2.2) := if_neg q
      rw [if_neg q] at d3
      obtain ⟨W, a1, a2, a3⟩ := ih f (i + 1) (ev1 r x) (sJ (sJ U 3 (lZ ((nx x.2.1 : Nat) : Int))) 3 (lZ ((nx (nx x.2.1) : Nat) : Int))) (by omega) (by omega) hU2 (by rw [e1]; exact s_JJ _ _ _) (by rw [e1]; show nx (nx x.2.1) ≤ 1000002; omega) (by rw [e1]; exact hR) (by rw [e1]; show x.2.2 ≤ i + 1; omega)
      refine ⟨W, ?_, f2.trans a2, a3⟩
      have ew : (ev1 r x).2.2 = x.2.2 := by rw [e1]
      rw [e0, ← a1, ew, f_X12_evenings_74]
      simp (disch := omega) only [k_let, Option.bind_some, ↓reduceIte, eq_self, true_or, or_true, n01_0, n01_1, kb_or, kb_0T, kb_0F, vn_0, vn_1, vn_k, nl_0, nl_1, nl_2, nl_3, nl_4, nl_5, nl_6, nl_7, nl_8, nl_9, nl_10, nl_11, nl_12, nl_13, nl_14, nl_15, nl_16, nl_20, nl_21, nl_22, nl_23, nl_24, nl_25, nl_26, nl_27, nl_28, nl_29, nl_30, nl_31, nl_32, nl_40, nl_41, nl_42, nl_43, nl_45, nl_47, nl_48, nl_50, nl_57, nl_59, nl_60, nl_61, nl_62, nl_63, nl_64, nl_91, nl_93, nl_94, nl_97, nl_98, nl_100, nl_110, nl_122, nl_130, nl_144, nl_160, nl_240, nl_241, nl_255, nl_256, nl_400, nl_800, nl_900, nl_999, nl_1000, nl_1001, nl_1024, nl_1103, nl_1928, nl_4321, nl_5560, nl_12345, nl_1000000, nl_1000003, nl_252645135, nl_858993459, nl_1431655765, nl_1000000000, nI_add, pk_mul, n_neg, n_cl, leT, leF, ltT, ltF, eqT, eqF, kbT, s_II, s_In, s_IJ, s_IA, s_IL, s_IR, s_IC, s_JI, s_JJ, s_Jn, s_JA, s_JL, s_JR, s_JC, s_AI, s_AJ, s_AA, s_An, s_AL, s_AR, s_AC, s_LI, s_LJ, s_LA, s_LL, s_Ln, s_LR, s_LC, ↓b_of d1, g53, r0, ↓b_of d2, ↓b_of pn, es, d3]
