/-! part 60: debts without halves go, those behind move up -/
def kc (h : Nat → Nat) : Nat → Nat
  | 0 => 0
  | d + 1 => kc h d + (if 0 < h d then 1 else 0)
theorem kc_le (h : Nat → Nat) : ∀ d, kc h d ≤ d := by
  intro d
  induction d with
  | zero => exact Nat.le_refl 0
  | succ d ih =>
    show kc h d + (if 0 < h d then 1 else 0) ≤ d + 1
    by_cases c : 0 < h d
    · rw [if_pos c]; omega
    · rw [if_neg c]; omega
theorem kc_s {h : Nat → Nat} {d : Nat} (c : 0 < h d) : kc h (d + 1) = kc h d + 1 := by
  show kc h d + (if 0 < h d then 1 else 0) = _
  rw [if_pos c]
theorem kc_z {h : Nat → Nat} {d : Nat} (c : ¬ 0 < h d) : kc h (d + 1) = kc h d := by
  show kc h d + (if 0 < h d then 1 else 0) = _
  rw [if_neg c, Nat.add_zero]
theorem kc_mono {h : Nat → Nat} : ∀ {e d : Nat}, d ≤ e → kc h d ≤ kc h e := by
  intro e
  induction e with
  | zero => intro d hd; rw [Nat.le_zero.mp hd]; exact Nat.le_refl _
  | succ e ih =>
    intro d hd
    by_cases q : d = e + 1
    · rw [q]; exact Nat.le_refl _
    · refine Nat.le_trans (ih (by omega)) ?_
      show kc h e ≤ kc h e + (if 0 < h e then 1 else 0)
      omega
theorem kc_lt {h : Nat → Nat} {d e : Nat} (hd : d < e) (c : 0 < h d) : kc h d < kc h e := by
  have := kc_mono (h := h) (show d + 1 ≤ e from hd)
  rw [kc_s c] at this
  omega
theorem kc_surj {h : Nat → Nat} : ∀ {n j : Nat}, j < kc h n → ∃ d, d < n ∧ kc h d = j ∧ 0 < h d := by
  intro n
  induction n with
  | zero => intro j hj; exact absurd hj (Nat.not_lt_zero _)
  | succ n ih =>
    intro j hj
    by_cases c : 0 < h n
    · rw [kc_s c] at hj
      by_cases q : j = kc h n
      · exact ⟨n, by omega, q.symm, c⟩
      · obtain ⟨d, a, b⟩ := ih (show j < kc h n by omega)
        exact ⟨d, by omega, b⟩
    · rw [kc_z c] at hj
      obtain ⟨d, a, b⟩ := ih hj
      exact ⟨d, by omega, b⟩
theorem in5 {k : Nat} (h : k ∈ [3, 4, 5, 6, 7]) : k = 3 ∨ k = 4 ∨ k = 5 ∨ k = 6 ∨ k = 7 := by
  simpa using h
theorem l_drop {S0 : St} {n : Nat} {h : Nat → Nat} (hn : n ≤ 16) (hh : ∀ d, d < n → gA S0 6 d = nI (h d) ∧ h d < 2147483648) : ∀ (m f d : Nat) (U : St), d + m = n → m < f → gI U 1 = nI n → Fr [1] [] [3, 4, 5, 6, 7] [] S0 U → (∀ e, e < d → 0 < h e → ∀ k, k ∈ [3, 4, 5, 6, 7] → gA U k (kc h e) = gA S0 k e) → (∀ e, d ≤ e → ∀ k, k ∈ [3, 4, 5, 6, 7] → gA U k e = gA S0 k e) →
    ∃ T, f_X1_dropPlayed_4 f (nI (kc h d)) (nI d) U = some T ∧ gI T 1 = nI (kc h n) ∧ Fr [1] [] [3, 4, 5, 6, 7] [] S0 T ∧ ∀ e, e < n → 0 < h e → ∀ k, k ∈ [3, 4, 5, 6, 7] → gA T k (kc h e) = gA S0 k e := by
  intro m
  induction m with
  | zero =>
    intro f d U hd hf h1 hF hp hr
    obtain ⟨f, rfl⟩ : ∃ g, f = g + 1 := ⟨f - 1, by omega⟩
    have : d = n := by omega
    subst this
    refine ⟨sI U 1 (nI (kc h d)), ?_, s_II _ _ _, hF.sI rfl _, fun e he c k hk => hp e he c k hk⟩
    rw [f_X1_dropPlayed_4, f_X1_dropPlayed_96]
    simp (disch := omega) only [k_let, Option.bind_some, ↓reduceIte, eq_self, true_or, or_true, n01_0, n01_1, kb_or, kb_0T, kb_0F, vn_0, vn_1, vn_k, nl_0, nl_1, nl_2, nl_3, nl_4, nl_5, nl_6, nl_7, nl_8, nl_9, nl_10, nl_11, nl_12, nl_13, nl_14, nl_15, nl_16, nl_20, nl_21, nl_22, nl_23, nl_24, nl_25, nl_26, nl_27, nl_28, nl_29, nl_30, nl_31, nl_32, nl_40, nl_41, nl_42, nl_43, nl_45, nl_47, nl_48, nl_50, nl_57, nl_59, nl_60, nl_61, nl_62, nl_63, nl_64, nl_91, nl_93, nl_94, nl_97, nl_98, nl_100, nl_110, nl_122, nl_130, nl_144, nl_160, nl_240, nl_241, nl_255, nl_256, nl_400, nl_800, nl_900, nl_999, nl_1000, nl_1001, nl_1024, nl_1103, nl_1928, nl_4321, nl_5560, nl_12345, nl_1000000, nl_1000003, nl_252645135, nl_858993459, nl_1431655765, nl_1000000000, nI_add, pk_mul, n_sub, n_neg, n_cl, leT, leF, ltT, ltF, eqT, eqF, kbT, s_II, s_In, s_IJ, s_IA, s_IL, s_IR, s_IC, s_JI, s_JJ, s_Jn, s_JA, s_JL, s_JR, s_JC, s_AI, s_AJ, s_AA, s_An, s_AL, s_AR, s_AC, s_LI, s_LJ, s_LA, s_LL, s_Ln, s_LR, s_LC, h1]
  | succ m ih =>
    intro f d U hd hf h1 hF hp hr
    obtain ⟨f, rfl⟩ : ∃ g, f = g + 1 := ⟨f - 1, by omega⟩
    have hdn : d < n := by omega
    have hle := kc_le h d
    have h6 : gA U 6 d = nI (h d) := (hr d (Nat.le_refl _) 6 (by decide)).trans (hh d hdn).1
    have hlt := (hh d hdn).2
    by_cases c : 0 < h d
    · have e1 : f_X1_dropPlayed_4 (f + 1) (nI (kc h d)) (nI d) U = f_X1_dropPlayed_4 f (nI (kc h (d + 1))) (nI (d + 1)) (sA (sA (sA (sA (sA U 3 (kc h d) (gA U 3 d)) 4 (kc h d) (gA U 4 d)) 5 (kc h d) (gA U 5 d)) 6 (kc h d) (gA U 6 d)) 7 (kc h d) (gA U 7 d)) := by
        rw [f_X1_dropPlayed_4, kc_s c]
        simp (disch := omega) only [k_let, Option.bind_some, ↓reduceIte, eq_self, true_or, or_true, n01_0, n01_1, kb_or, kb_0T, kb_0F, vn_0, vn_1, vn_k, nl_0, nl_1, nl_2, nl_3, nl_4, nl_5, nl_6, nl_7, nl_8, nl_9, nl_10, nl_11, nl_12, nl_13, nl_14, nl_15, nl_16, nl_20, nl_21, nl_22, nl_23, nl_24, nl_25, nl_26, nl_27, nl_28, nl_29, nl_30, nl_31, nl_32, nl_40, nl_41, nl_42, nl_43, nl_45, nl_47, nl_48, nl_50, nl_57, nl_59, nl_60, nl_61, nl_62, nl_63, nl_64, nl_91, nl_93, nl_94, nl_97, nl_98, nl_100, nl_110, nl_122, nl_130, nl_144, nl_160, nl_240, nl_241, nl_255, nl_256, nl_400, nl_800, nl_900, nl_999, nl_1000, nl_1001, nl_1024, nl_1103, nl_1928, nl_4321, nl_5560, nl_12345, nl_1000000, nl_1000003, nl_252645135, nl_858993459, nl_1431655765, nl_1000000000, nI_add, pk_mul, n_sub, n_neg, n_cl, leT, leF, ltT, ltF, eqT, eqF, kbT, s_II, s_In, s_IJ, s_IA, s_IL, s_IR, s_IC, s_JI, s_JJ, s_Jn, s_JA, s_JL, s_JR, s_JC, s_AI, s_AJ, s_AA, s_An, s_AL, s_AR, s_AC, s_LI, s_LJ, s_LA, s_LL, s_Ln, s_LR, s_LC, h1, h6, f_X1_dropPlayed_90]
      have key : ∀ k, k ∈ [3, 4, 5, 6, 7] → gA (sA (sA (sA (sA (sA U 3 (kc h d) (gA U 3 d)) 4 (kc h d) (gA U 4 d)) 5 (kc h d) (gA U 5 d)) 6 (kc h d) (gA U 6 d)) 7 (kc h d) (gA U 7 d)) k = upd (gA U k) (kc h d) (gA U k d) := by
        intro k hk
        rcases in5 hk with rfl | rfl | rfl | rfl | rfl <;> simp (disch := omega) only [s_II, s_In, s_IJ, s_IA, s_IL, s_IR, s_IC, s_JI, s_JJ, s_Jn, s_JA, s_JL, s_JR, s_JC, s_AI, s_AJ, s_AA, s_An, s_AL, s_AR, s_AC, s_LI, s_LJ, s_LA, s_LL, s_Ln, s_LR, s_LC]
      rw [e1]
      refine ih f (d + 1) _ (by omega) (by omega) ?_ (((((hF.sA rfl _ _).sA rfl _ _).sA rfl _ _).sA rfl _ _).sA rfl _ _) ?_ ?_
      · simp (disch := omega) only [s_II, s_In, s_IJ, s_IA, s_IL, s_IR, s_IC, s_JI, s_JJ, s_Jn, s_JA, s_JL, s_JR, s_JC, s_AI, s_AJ, s_AA, s_An, s_AL, s_AR, s_AC, s_LI, s_LJ, s_LA, s_LL, s_Ln, s_LR, s_LC, h1]
      · intro e he ce k hk
        rw [key k hk]
        by_cases q : e = d
        · rw [q, u_s]; exact hr d (Nat.le_refl _) k hk
        · rw [u_n (by have := kc_lt (h := h) (show e < d by omega) ce; omega)]
          exact hp e (by omega) ce k hk
      · intro e he k hk
        rw [key k hk, u_n (by omega)]
        exact hr e (by omega) k hk
    · have e1 : f_X1_dropPlayed_4 (f + 1) (nI (kc h d)) (nI d) U = f_X1_dropPlayed_4 f (nI (kc h (d + 1))) (nI (d + 1)) U := by
        rw [f_X1_dropPlayed_4, kc_z c]
        simp (disch := omega) only [k_let, Option.bind_some, ↓reduceIte, eq_self, true_or, or_true, n01_0, n01_1, kb_or, kb_0T, kb_0F, vn_0, vn_1, vn_k, nl_0, nl_1, nl_2, nl_3, nl_4, nl_5, nl_6, nl_7, nl_8, nl_9, nl_10, nl_11, nl_12, nl_13, nl_14, nl_15, nl_16, nl_20, nl_21, nl_22, nl_23, nl_24, nl_25, nl_26, nl_27, nl_28, nl_29, nl_30, nl_31, nl_32, nl_40, nl_41, nl_42, nl_43, nl_45, nl_47, nl_48, nl_50, nl_57, nl_59, nl_60, nl_61, nl_62, nl_63, nl_64, nl_91, nl_93, nl_94, nl_97, nl_98, nl_100, nl_110, nl_122, nl_130, nl_144, nl_160, nl_240, nl_241, nl_255, nl_256, nl_400, nl_800, nl_900, nl_999, nl_1000, nl_1001, nl_1024, nl_1103, nl_1928, nl_4321, nl_5560, nl_12345, nl_1000000, nl_1000003, nl_252645135, nl_858993459, nl_1431655765, nl_1000000000, nI_add, pk_mul, n_sub, n_neg, n_cl, leT, leF, ltT, ltF, eqT, eqF, kbT, s_II, s_In, s_IJ, s_IA, s_IL, s_IR, s_IC, s_JI, s_JJ, s_Jn, s_JA, s_JL, s_JR, s_JC, s_AI, s_AJ, s_AA, s_An, s_AL, s_AR, s_AC, s_LI, s_LJ, s_LA, s_LL, s_Ln, s_LR, s_LC, h1, h6, f_X1_dropPlayed_90]
      rw [e1]
      refine ih f (d + 1) U (by omega) (by omega) h1 hF ?_ (fun e he => hr e (by omega))
      intro e he ce k hk
      by_cases q : e = d
      · exact absurd (q ▸ ce) c
      · exact hp e (by omega) ce k hk
theorem e_drop {S0 : St} {n : Nat} {h : Nat → Nat} (hn : n ≤ 16) (h1 : gI S0 1 = nI n) (hh : ∀ d, d < n → gA S0 6 d = nI (h d) ∧ h d < 2147483648) :
    ∃ T, f_X1_dropPlayed S0 = some T ∧ gI T 1 = nI (kc h n) ∧ Fr [1] [] [3, 4, 5, 6, 7] [] S0 T ∧ ∀ e, e < n → 0 < h e → ∀ k, k ∈ [3, 4, 5, 6, 7] → gA T k (kc h e) = gA S0 k e :=
  l_drop hn hh n FU 0 S0 (by omega) (FU_ge (by omega)) h1 (Fr.refl _) (fun e he => absurd he (Nat.not_lt_zero _)) (fun _ _ _ _ => rfl)
/-! the reference's sweep -/
theorem l_sweep5 {n to d : Nat} (htd : to ≤ d) (hd : d < 16) (k4 : Int32 → Int32 → St → Option St) : ∀ (m f w : Nat) (U V : St), w + m = 5 → m < f → Fr [] [] [53] [] U V → (∀ i, gA V 53 i = if 14 + 5 * to ≤ i ∧ i < 14 + 5 * to + w then gA U 53 (14 + 5 * d + (i - (14 + 5 * to))) else gA U 53 i) →
    ∃ T, f_X12_sweep_23 k4 f (nI to) (nI d) (nI w) V = k4 (nI (to + 1)) (nI (d + 1)) T ∧ Fr [] [] [53] [] U T ∧ ∀ i, gA T 53 i = if 14 + 5 * to ≤ i ∧ i < 14 + 5 * to + 5 then gA U 53 (14 + 5 * d + (i - (14 + 5 * to))) else gA U 53 i := by
  intro m
  induction m with
  | zero =>
    intro f w U V hw hf hF hV
    obtain ⟨f, rfl⟩ : ∃ g, f = g + 1 := ⟨f - 1, by omega⟩
    have : w = 5 := by omega
    subst this
    refine ⟨V, ?_, hF, hV⟩
    rw [f_X12_sweep_23, f_X12_sweep_56]
    simp (disch := omega) only [k_let, Option.bind_some, ↓reduceIte, eq_self, true_or, or_true, n01_0, n01_1, kb_or, kb_0T, kb_0F, vn_0, vn_1, vn_k, nl_0, nl_1, nl_2, nl_3, nl_4, nl_5, nl_6, nl_7, nl_8, nl_9, nl_10, nl_11, nl_12, nl_13, nl_14, nl_15, nl_16, nl_20, nl_21, nl_22, nl_23, nl_24, nl_25, nl_26, nl_27, nl_28, nl_29, nl_30, nl_31, nl_32, nl_40, nl_41, nl_42, nl_43, nl_45, nl_47, nl_48, nl_50, nl_57, nl_59, nl_60, nl_61, nl_62, nl_63, nl_64, nl_91, nl_93, nl_94, nl_97, nl_98, nl_100, nl_110, nl_122, nl_130, nl_144, nl_160, nl_240, nl_241, nl_255, nl_256, nl_400, nl_800, nl_900, nl_999, nl_1000, nl_1001, nl_1024, nl_1103, nl_1928, nl_4321, nl_5560, nl_12345, nl_1000000, nl_1000003, nl_252645135, nl_858993459, nl_1431655765, nl_1000000000, nI_add, pk_mul, n_sub, n_neg, n_cl, leT, leF, ltT, ltF, eqT, eqF, kbT, s_II, s_In, s_IJ, s_IA, s_IL, s_IR, s_IC, s_JI, s_JJ, s_Jn, s_JA, s_JL, s_JR, s_JC, s_AI, s_AJ, s_AA, s_An, s_AL, s_AR, s_AC, s_LI, s_LJ, s_LA, s_LL, s_Ln, s_LR, s_LC]
  | succ m ih =>
    intro f w U V hw hf hF hV
    obtain ⟨f, rfl⟩ : ∃ g, f = g + 1 := ⟨f - 1, by omega⟩
    have e1 : f_X12_sweep_23 k4 (f + 1) (nI to) (nI d) (nI w) V = f_X12_sweep_23 k4 f (nI to) (nI d) (nI (w + 1)) (sA V 53 (14 + 5 * to + w) (gA V 53 (14 + 5 * d + w))) := by
      rw [f_X12_sweep_23]
      simp (disch := omega) only [k_let, Option.bind_some, ↓reduceIte, eq_self, true_or, or_true, n01_0, n01_1, kb_or, kb_0T, kb_0F, vn_0, vn_1, vn_k, nl_0, nl_1, nl_2, nl_3, nl_4, nl_5, nl_6, nl_7, nl_8, nl_9, nl_10, nl_11, nl_12, nl_13, nl_14, nl_15, nl_16, nl_20, nl_21, nl_22, nl_23, nl_24, nl_25, nl_26, nl_27, nl_28, nl_29, nl_30, nl_31, nl_32, nl_40, nl_41, nl_42, nl_43, nl_45, nl_47, nl_48, nl_50, nl_57, nl_59, nl_60, nl_61, nl_62, nl_63, nl_64, nl_91, nl_93, nl_94, nl_97, nl_98, nl_100, nl_110, nl_122, nl_130, nl_144, nl_160, nl_240, nl_241, nl_255, nl_256, nl_400, nl_800, nl_900, nl_999, nl_1000, nl_1001, nl_1024, nl_1103, nl_1928, nl_4321, nl_5560, nl_12345, nl_1000000, nl_1000003, nl_252645135, nl_858993459, nl_1431655765, nl_1000000000, nI_add, pk_mul, n_sub, n_neg, n_cl, leT, leF, ltT, ltF, eqT, eqF, kbT, s_II, s_In, s_IJ, s_IA, s_IL, s_IR, s_IC, s_JI, s_JJ, s_Jn, s_JA, s_JL, s_JR, s_JC, s_AI, s_AJ, s_AA, s_An, s_AL, s_AR, s_AC, s_LI, s_LJ, s_LA, s_LL, s_Ln, s_LR, s_LC, e_ofDebt]
    rw [e1]
    refine ih f (w + 1) U _ (by omega) (by omega) (hF.sA rfl _ _) ?_
    intro i
    rw [s_AA, u_a]
    by_cases q : i = 14 + 5 * to + w
    · rw [if_pos q, if_pos (by omega), hV]
      by_cases z : 14 + 5 * to ≤ 14 + 5 * d + w ∧ 14 + 5 * d + w < 14 + 5 * to + w
      · omega
      · rw [if_neg z]; congr 1; omega
    · rw [if_neg q, hV]
      by_cases z : 14 + 5 * to ≤ i ∧ i < 14 + 5 * to + w
      · rw [if_pos z, if_pos (by omega)]
      · rw [if_neg z, if_neg (by omega)]
theorem l_sweep {S0 : St} {n : Nat} {h : Nat → Nat} (hn : n ≤ 16) (hh : ∀ d, d < n → gA S0 53 (14 + 5 * d + 3) = nI (h d) ∧ h d < 2147483648) : ∀ (m f d : Nat) (U : St), d + m = n → m < f → gA U 53 1 = nI n → Fr [] [] [53] [] S0 U → (∀ e, e < d → 0 < h e → ∀ w, w < 5 → gA U 53 (14 + 5 * kc h e + w) = gA S0 53 (14 + 5 * e + w)) → (∀ i, i < 14 ∨ 14 + 5 * d ≤ i → gA U 53 i = gA S0 53 i) →
    ∃ T, f_X12_sweep_4 f (nI (kc h d)) (nI d) U = some T ∧ gA T 53 1 = nI (kc h n) ∧ Fr [] [] [53] [] S0 T ∧ (∀ e, e < n → 0 < h e → ∀ w, w < 5 → gA T 53 (14 + 5 * kc h e + w) = gA S0 53 (14 + 5 * e + w)) ∧ ∀ i, i ≠ 1 → i < 14 ∨ 14 + 5 * n ≤ i → gA T 53 i = gA S0 53 i := by
  intro m
  induction m with
  | zero =>
    intro f d U hd hf h1 hF hp hr
    obtain ⟨f, rfl⟩ : ∃ g, f = g + 1 := ⟨f - 1, by omega⟩
    have : d = n := by omega
    subst this
    refine ⟨sA U 53 1 (nI (kc h d)), ?_, by rw [s_AA, u_s], hF.sA rfl _ _, fun e he c w hw => ?_, fun i hi hi2 => ?_⟩
    · rw [f_X12_sweep_4]
      simp (disch := omega) only [k_let, Option.bind_some, ↓reduceIte, eq_self, true_or, or_true, n01_0, n01_1, kb_or, kb_0T, kb_0F, vn_0, vn_1, vn_k, nl_0, nl_1, nl_2, nl_3, nl_4, nl_5, nl_6, nl_7, nl_8, nl_9, nl_10, nl_11, nl_12, nl_13, nl_14, nl_15, nl_16, nl_20, nl_21, nl_22, nl_23, nl_24, nl_25, nl_26, nl_27, nl_28, nl_29, nl_30, nl_31, nl_32, nl_40, nl_41, nl_42, nl_43, nl_45, nl_47, nl_48, nl_50, nl_57, nl_59, nl_60, nl_61, nl_62, nl_63, nl_64, nl_91, nl_93, nl_94, nl_97, nl_98, nl_100, nl_110, nl_122, nl_130, nl_144, nl_160, nl_240, nl_241, nl_255, nl_256, nl_400, nl_800, nl_900, nl_999, nl_1000, nl_1001, nl_1024, nl_1103, nl_1928, nl_4321, nl_5560, nl_12345, nl_1000000, nl_1000003, nl_252645135, nl_858993459, nl_1431655765, nl_1000000000, nI_add, pk_mul, n_sub, n_neg, n_cl, leT, leF, ltT, ltF, eqT, eqF, kbT, s_II, s_In, s_IJ, s_IA, s_IL, s_IR, s_IC, s_JI, s_JJ, s_Jn, s_JA, s_JL, s_JR, s_JC, s_AI, s_AJ, s_AA, s_An, s_AL, s_AR, s_AC, s_LI, s_LJ, s_LA, s_LL, s_Ln, s_LR, s_LC, e_debts, h1]
    · rw [s_AA, u_n (by omega)]; exact hp e he c w hw
    · rw [s_AA, u_n hi]; exact hr i hi2
  | succ m ih =>
    intro f d U hd hf h1 hF hp hr
    obtain ⟨f, rfl⟩ : ∃ g, f = g + 1 := ⟨f - 1, by omega⟩
    have hdn : d < n := by omega
    have hle := kc_le h d
    have h6 : gA U 53 (14 + 5 * d + 3) = nI (h d) := (hr _ (by omega)).trans (hh d hdn).1
    have hlt := (hh d hdn).2
    by_cases c : 0 < h d
    · have e1 : f_X12_sweep_4 (f + 1) (nI (kc h d)) (nI d) U = f_X12_sweep_23 (f_X12_sweep_4 f) FU (nI (kc h d)) (nI d) (nI 0) U := by
        rw [f_X12_sweep_4]
        simp (disch := omega) only [k_let, Option.bind_some, ↓reduceIte, eq_self, true_or, or_true, n01_0, n01_1, kb_or, kb_0T, kb_0F, vn_0, vn_1, vn_k, nl_0, nl_1, nl_2, nl_3, nl_4, nl_5, nl_6, nl_7, nl_8, nl_9, nl_10, nl_11, nl_12, nl_13, nl_14, nl_15, nl_16, nl_20, nl_21, nl_22, nl_23, nl_24, nl_25, nl_26, nl_27, nl_28, nl_29, nl_30, nl_31, nl_32, nl_40, nl_41, nl_42, nl_43, nl_45, nl_47, nl_48, nl_50, nl_57, nl_59, nl_60, nl_61, nl_62, nl_63, nl_64, nl_91, nl_93, nl_94, nl_97, nl_98, nl_100, nl_110, nl_122, nl_130, nl_144, nl_160, nl_240, nl_241, nl_255, nl_256, nl_400, nl_800, nl_900, nl_999, nl_1000, nl_1001, nl_1024, nl_1103, nl_1928, nl_4321, nl_5560, nl_12345, nl_1000000, nl_1000003, nl_252645135, nl_858993459, nl_1431655765, nl_1000000000, nI_add, pk_mul, n_sub, n_neg, n_cl, leT, leF, ltT, ltF, eqT, eqF, kbT, s_II, s_In, s_IJ, s_IA, s_IL, s_IR, s_IC, s_JI, s_JJ, s_Jn, s_JA, s_JL, s_JR, s_JC, s_AI, s_AJ, s_AA, s_An, s_AL, s_AR, s_AC, s_LI, s_LJ, s_LA, s_LL, s_Ln, s_LR, s_LC, e_debts, h1, e_ofDebt, h6]
      obtain ⟨V, a1, a2, a3⟩ := l_sweep5 (n := n) hle (by omega) (f_X12_sweep_4 f) 5 FU 0 U U (by omega) (FU_ge (by omega)) (Fr.refl _) (fun i => by rw [if_neg (by omega)])
      rw [e1, a1, ← kc_s c]
      refine ih f (d + 1) V (by omega) (by omega) ?_ (hF.trans a2) ?_ ?_
      · rw [a3, if_neg (by omega), h1]
      · intro e he ce w hw
        rw [a3]
        by_cases q : e = d
        · rw [q, if_pos (by omega), hr _ (by omega)]; congr 1; omega
        · rw [if_neg (by have := kc_lt (h := h) (show e < d by omega) ce; omega)]
          exact hp e (by omega) ce w hw
      · intro i hi
        rw [a3, if_neg (by omega)]
        exact hr i (by omega)
    · have e1 : f_X12_sweep_4 (f + 1) (nI (kc h d)) (nI d) U = f_X12_sweep_4 f (nI (kc h (d + 1))) (nI (d + 1)) U := by
        rw [f_X12_sweep_4, kc_z c]
        simp (disch := omega) only [k_let, Option.bind_some, ↓reduceIte, eq_self, true_or, or_true, n01_0, n01_1, kb_or, kb_0T, kb_0F, vn_0, vn_1, vn_k, nl_0, nl_1, nl_2, nl_3, nl_4, nl_5, nl_6, nl_7, nl_8, nl_9, nl_10, nl_11, nl_12, nl_13, nl_14, nl_15, nl_16, nl_20, nl_21, nl_22, nl_23, nl_24, nl_25, nl_26, nl_27, nl_28, nl_29, nl_30, nl_31, nl_32, nl_40, nl_41, nl_42, nl_43, nl_45, nl_47, nl_48, nl_50, nl_57, nl_59, nl_60, nl_61, nl_62, nl_63, nl_64, nl_91, nl_93, nl_94, nl_97, nl_98, nl_100, nl_110, nl_122, nl_130, nl_144, nl_160, nl_240, nl_241, nl_255, nl_256, nl_400, nl_800, nl_900, nl_999, nl_1000, nl_1001, nl_1024, nl_1103, nl_1928, nl_4321, nl_5560, nl_12345, nl_1000000, nl_1000003, nl_252645135, nl_858993459, nl_1431655765, nl_1000000000, nI_add, pk_mul, n_sub, n_neg, n_cl, leT, leF, ltT, ltF, eqT, eqF, kbT, s_II, s_In, s_IJ, s_IA, s_IL, s_IR, s_IC, s_JI, s_JJ, s_Jn, s_JA, s_JL, s_JR, s_JC, s_AI, s_AJ, s_AA, s_An, s_AL, s_AR, s_AC, s_LI, s_LJ, s_LA, s_LL, s_Ln, s_LR, s_LC, e_debts, h1, e_ofDebt, h6, f_X12_sweep_56]
      rw [e1]
      refine ih f (d + 1) U (by omega) (by omega) h1 hF ?_ (fun i hi => hr i (by omega))
      intro e he ce w hw
      by_cases q : e = d
      · exact absurd (q ▸ ce) c
      · exact hp e (by omega) ce w hw
theorem e_sweep {S0 : St} {n : Nat} {h : Nat → Nat} (hn : n ≤ 16) (h1 : gA S0 53 1 = nI n) (hh : ∀ d, d < n → gA S0 53 (14 + 5 * d + 3) = nI (h d) ∧ h d < 2147483648) :
    ∃ T, f_X12_sweep S0 = some T ∧ gA T 53 1 = nI (kc h n) ∧ Fr [] [] [53] [] S0 T ∧ (∀ e, e < n → 0 < h e → ∀ w, w < 5 → gA T 53 (14 + 5 * kc h e + w) = gA S0 53 (14 + 5 * e + w)) ∧ ∀ i, i ≠ 1 → i < 14 ∨ 14 + 5 * n ≤ i → gA T 53 i = gA S0 53 i :=
  l_sweep hn hh n FU 0 S0 (by omega) (FU_ge (by omega)) h1 (Fr.refl _) (fun e he => absurd he (Nat.not_lt_zero _)) (fun _ _ => rfl)
