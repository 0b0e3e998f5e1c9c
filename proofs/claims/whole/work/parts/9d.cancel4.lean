/-! part 9d: cancel: one taking, the class -/
def lfF (Q : Nat → Bool) (h : Nat → Nat) (A : Nat) : Nat → Nat
  | 0 => A
  | d + 1 => if Q d = true then lfF Q h A d - min (h d) (lfF Q h A d) else lfF Q h A d
def nhF (Q : Nat → Bool) (h : Nat → Nat) (A d : Nat) : Nat := if Q d = true then h d - min (h d) (lfF Q h A d) else h d
theorem lfF_le (Q : Nat → Bool) (h : Nat → Nat) (A : Nat) : ∀ d, lfF Q h A d ≤ A := by
  intro d
  induction d with
  | zero => exact Nat.le_refl _
  | succ d ih =>
    show (if Q d = true then lfF Q h A d - min (h d) (lfF Q h A d) else lfF Q h A d) ≤ A
    by_cases c : Q d = true
    · rw [if_pos c]; omega
    · rw [if_neg c]; exact ih
theorem l_take6 {r : Nat → Int32} {V : Nat → Vd} {S : St} {t i j A : Nat} {h : Nat → Nat} (hQ : Qc r V S) (ht : t < 6) (h19 : gI S 19 = nI t) (hi : i < 8) (hj : j < 8) (hA : A ≤ 144) (hh : ∀ d, d < nD r → h d ≤ 9) : ∀ (m f d : Nat) (U : St), d + m = nD r → m < f → Fr [] [] [6] [] S U → (∀ e, e < nD r → gA U 6 e = nI (if e < d then nhF (fun d => decide (ctB r V t d = true ∧ dOw r d = i ∧ dCr r d = j)) h A e else h e)) →
    ∃ W, f_X8_take_6 f (nI i) (nI j) (nI (lfF (fun d => decide (ctB r V t d = true ∧ dOw r d = i ∧ dCr r d = j)) h A d)) (nI d) U = some W ∧ Fr [] [] [6] [] S W ∧ ∀ e, e < nD r → gA W 6 e = nI (nhF (fun d => decide (ctB r V t d = true ∧ dOw r d = i ∧ dCr r d = j)) h A e) := by
  have h16 := hQ.1.1.n16
  intro m
  induction m with
  | zero =>
    intro f d U hd hf hF hR
    obtain ⟨f, rfl⟩ : ∃ g, f = g + 1 := ⟨f - 1, by omega⟩
    have : d = nD r := by omega
    subst this
    have k1 : gI U 1 = nI (nD r) := (hF.I (k := 1) rfl).trans hQ.1.I1
    refine ⟨U, ?_, hF, fun e he => by rw [hR e he, if_pos he]⟩
    rw [f_X8_take_6, f_X8_take_81]
    simp (disch := omega) only [k_let, Option.bind_some, ↓reduceIte, eq_self, true_or, or_true, n01_0, n01_1, kb_or, kb_0T, kb_0F, vn_0, vn_1, vn_k, nl_0, nl_1, nl_2, nl_3, nl_4, nl_5, nl_6, nl_7, nl_8, nl_9, nl_10, nl_11, nl_12, nl_13, nl_14, nl_15, nl_16, nl_20, nl_21, nl_22, nl_23, nl_24, nl_25, nl_26, nl_27, nl_28, nl_29, nl_30, nl_31, nl_32, nl_40, nl_41, nl_42, nl_43, nl_45, nl_47, nl_48, nl_50, nl_57, nl_59, nl_60, nl_61, nl_62, nl_63, nl_64, nl_91, nl_93, nl_94, nl_97, nl_98, nl_100, nl_110, nl_122, nl_130, nl_144, nl_160, nl_240, nl_241, nl_255, nl_256, nl_400, nl_800, nl_900, nl_999, nl_1000, nl_1001, nl_1024, nl_1103, nl_1928, nl_4321, nl_5560, nl_12345, nl_1000000, nl_1000003, nl_252645135, nl_858993459, nl_1431655765, nl_1000000000, nI_add, pk_mul, n_sub, n_neg, n_cl, leT, leF, ltT, ltF, eqT, eqF, kbT, s_II, s_In, s_IJ, s_IA, s_IL, s_IR, s_IC, s_JI, s_JJ, s_Jn, s_JA, s_JL, s_JR, s_JC, s_AI, s_AJ, s_AA, s_An, s_AL, s_AR, s_AC, s_LI, s_LJ, s_LA, s_LL, s_Ln, s_LR, s_LC, k1]
  | succ m ih =>
    intro f d U hd hf hF hR
    obtain ⟨f, rfl⟩ : ∃ g, f = g + 1 := ⟨f - 1, by omega⟩
    have hdn : d < nD r := by omega
    have k1 : gI U 1 = nI (nD r) := (hF.I (k := 1) rfl).trans hQ.1.I1
    have pb := e_isBt6 hQ hF ht h19 hi hj hdn
    have hd0 := hR d hdn
    rw [if_neg (Nat.lt_irrefl d)] at hd0
    have h9 := hh d hdn
    generalize hQe : (fun d => decide (ctB r V t d = true ∧ dOw r d = i ∧ dCr r d = j)) = Q at *
    have qd : decide (ctB r V t d = true ∧ dOw r d = i ∧ dCr r d = j) = Q d := by rw [← hQe]
    rw [qd] at pb
    have ll := lfF_le Q h A d
    have el : lfF Q h A (d + 1) = if Q d = true then lfF Q h A d - min (h d) (lfF Q h A d) else lfF Q h A d := rfl
    have en : nhF Q h A d = if Q d = true then h d - min (h d) (lfF Q h A d) else h d := rfl
    have rows : ∀ U', (∀ e, e ≠ d → gA U' 6 e = gA U 6 e) → gA U' 6 d = nI (nhF Q h A d) → ∀ e, e < nD r → gA U' 6 e = nI (if e < d + 1 then nhF Q h A e else h e) := fun U' a b e he => by
      by_cases q : e = d
      · rw [q, b, if_pos (Nat.lt_succ_self d)]
      · rw [a e q, hR e he]
        by_cases q2 : e < d
        · rw [if_pos q2, if_pos (by omega)]
        · rw [if_neg q2, if_neg (by omega)]
    by_cases c : Q d = true
    · rw [c, kB_t] at pb
      rw [if_pos c] at el en
      by_cases c2 : h d < lfF Q h A d
      · have mn : min (h d) (lfF Q h A d) = h d := by omega
        rw [mn] at el en
        obtain ⟨W, w1, w2, w3⟩ := ih f (d + 1) (sA U 6 d (nI (h d - h d))) (by omega) (by omega) (hF.sA rfl _ _) (rows _ (fun e q => by rw [s_AA, u_n q]) (by rw [s_AA, u_s, en]))
        refine ⟨W, ?_, w2, w3⟩
        rw [← w1, el, f_X8_take_6]
        simp (disch := omega) only [k_let, Option.bind_some, ↓reduceIte, eq_self, true_or, or_true, n01_0, n01_1, kb_or, kb_0T, kb_0F, vn_0, vn_1, vn_k, nl_0, nl_1, nl_2, nl_3, nl_4, nl_5, nl_6, nl_7, nl_8, nl_9, nl_10, nl_11, nl_12, nl_13, nl_14, nl_15, nl_16, nl_20, nl_21, nl_22, nl_23, nl_24, nl_25, nl_26, nl_27, nl_28, nl_29, nl_30, nl_31, nl_32, nl_40, nl_41, nl_42, nl_43, nl_45, nl_47, nl_48, nl_50, nl_57, nl_59, nl_60, nl_61, nl_62, nl_63, nl_64, nl_91, nl_93, nl_94, nl_97, nl_98, nl_100, nl_110, nl_122, nl_130, nl_144, nl_160, nl_240, nl_241, nl_255, nl_256, nl_400, nl_800, nl_900, nl_999, nl_1000, nl_1001, nl_1024, nl_1103, nl_1928, nl_4321, nl_5560, nl_12345, nl_1000000, nl_1000003, nl_252645135, nl_858993459, nl_1431655765, nl_1000000000, nI_add, pk_mul, n_sub, n_neg, n_cl, leT, leF, ltT, ltF, eqT, eqF, kbT, s_II, s_In, s_IJ, s_IA, s_IL, s_IR, s_IC, s_JI, s_JJ, s_Jn, s_JA, s_JL, s_JR, s_JC, s_AI, s_AJ, s_AA, s_An, s_AL, s_AR, s_AC, s_LI, s_LJ, s_LA, s_LL, s_Ln, s_LR, s_LC, k1, ↓b_of pb, hd0, f_X8_take_75]
      · have mn : min (h d) (lfF Q h A d) = lfF Q h A d := by omega
        rw [mn] at el en
        obtain ⟨W, w1, w2, w3⟩ := ih f (d + 1) (sA U 6 d (nI (h d - lfF Q h A d))) (by omega) (by omega) (hF.sA rfl _ _) (rows _ (fun e q => by rw [s_AA, u_n q]) (by rw [s_AA, u_s, en]))
        refine ⟨W, ?_, w2, w3⟩
        rw [← w1, el, f_X8_take_6]
        simp (disch := omega) only [k_let, Option.bind_some, ↓reduceIte, eq_self, true_or, or_true, n01_0, n01_1, kb_or, kb_0T, kb_0F, vn_0, vn_1, vn_k, nl_0, nl_1, nl_2, nl_3, nl_4, nl_5, nl_6, nl_7, nl_8, nl_9, nl_10, nl_11, nl_12, nl_13, nl_14, nl_15, nl_16, nl_20, nl_21, nl_22, nl_23, nl_24, nl_25, nl_26, nl_27, nl_28, nl_29, nl_30, nl_31, nl_32, nl_40, nl_41, nl_42, nl_43, nl_45, nl_47, nl_48, nl_50, nl_57, nl_59, nl_60, nl_61, nl_62, nl_63, nl_64, nl_91, nl_93, nl_94, nl_97, nl_98, nl_100, nl_110, nl_122, nl_130, nl_144, nl_160, nl_240, nl_241, nl_255, nl_256, nl_400, nl_800, nl_900, nl_999, nl_1000, nl_1001, nl_1024, nl_1103, nl_1928, nl_4321, nl_5560, nl_12345, nl_1000000, nl_1000003, nl_252645135, nl_858993459, nl_1431655765, nl_1000000000, nI_add, pk_mul, n_sub, n_neg, n_cl, leT, leF, ltT, ltF, eqT, eqF, kbT, s_II, s_In, s_IJ, s_IA, s_IL, s_IR, s_IC, s_JI, s_JJ, s_Jn, s_JA, s_JL, s_JR, s_JC, s_AI, s_AJ, s_AA, s_An, s_AL, s_AR, s_AC, s_LI, s_LJ, s_LA, s_LL, s_Ln, s_LR, s_LC, k1, ↓b_of pb, hd0, f_X8_take_75]
    · rw [if_neg c] at el en
      rw [Bool.not_eq_true] at c
      rw [c, kB_f] at pb
      obtain ⟨W, w1, w2, w3⟩ := ih f (d + 1) U (by omega) (by omega) hF (rows U (fun e q => rfl) (by rw [hd0, en]))
      refine ⟨W, ?_, w2, w3⟩
      rw [← w1, el, f_X8_take_6]
      simp (disch := omega) only [k_let, Option.bind_some, ↓reduceIte, eq_self, true_or, or_true, n01_0, n01_1, kb_or, kb_0T, kb_0F, vn_0, vn_1, vn_k, nl_0, nl_1, nl_2, nl_3, nl_4, nl_5, nl_6, nl_7, nl_8, nl_9, nl_10, nl_11, nl_12, nl_13, nl_14, nl_15, nl_16, nl_20, nl_21, nl_22, nl_23, nl_24, nl_25, nl_26, nl_27, nl_28, nl_29, nl_30, nl_31, nl_32, nl_40, nl_41, nl_42, nl_43, nl_45, nl_47, nl_48, nl_50, nl_57, nl_59, nl_60, nl_61, nl_62, nl_63, nl_64, nl_91, nl_93, nl_94, nl_97, nl_98, nl_100, nl_110, nl_122, nl_130, nl_144, nl_160, nl_240, nl_241, nl_255, nl_256, nl_400, nl_800, nl_900, nl_999, nl_1000, nl_1001, nl_1024, nl_1103, nl_1928, nl_4321, nl_5560, nl_12345, nl_1000000, nl_1000003, nl_252645135, nl_858993459, nl_1431655765, nl_1000000000, nI_add, pk_mul, n_sub, n_neg, n_cl, leT, leF, ltT, ltF, eqT, eqF, kbT, s_II, s_In, s_IJ, s_IA, s_IL, s_IR, s_IC, s_JI, s_JJ, s_Jn, s_JA, s_JL, s_JR, s_JC, s_AI, s_AJ, s_AA, s_An, s_AL, s_AR, s_AC, s_LI, s_LJ, s_LA, s_LL, s_Ln, s_LR, s_LC, k1, ↓b_of pb, f_X8_take_75]
