/-! part 83: one wedding played by all the debts (free) -/
def fkF (r : Nat → Int32) (V : Nat → Vd) (w : Nat) (H : Nat → Nat) (d m : Nat) : Nat := if dCr r d = w ∧ (V d).2.2 = false then min (H d) (m / dLn r d) else 0
def fpm (r : Nat → Int32) (V : Nat → Vd) (w : Nat) (H : Nat → Nat) (M : Nat) : Nat → Nat
  | 0 => M
  | d + 1 => fpm r V w H M d - fkF r V w H d (fpm r V w H M d) * dLn r d
def fk (r : Nat → Int32) (V : Nat → Vd) (w : Nat) (H : Nat → Nat) (M d : Nat) : Nat := fkF r V w H d (fpm r V w H M d)
theorem fpm_s (r : Nat → Int32) (V : Nat → Vd) (w : Nat) (H : Nat → Nat) (M d : Nat) : fpm r V w H M (d + 1) = fpm r V w H M d - fk r V w H M d * dLn r d := rfl
theorem fk_le (r : Nat → Int32) (V : Nat → Vd) (w : Nat) (H : Nat → Nat) (M d : Nat) : fk r V w H M d ≤ H d := by
  unfold fk fkF
  by_cases c : dCr r d = w ∧ (V d).2.2 = false
  · rw [if_pos c]; omega
  · rw [if_neg c]; omega
theorem fpm_le (r : Nat → Int32) (V : Nat → Vd) (w : Nat) (H : Nat → Nat) (M : Nat) : ∀ d, fpm r V w H M d ≤ M := by
  intro d
  induction d with
  | zero => exact Nat.le_refl _
  | succ d ih => exact Nat.le_trans (Nat.sub_le _ _) ih
theorem fk_a {r : Nat → Int32} {V : Nat → Vd} {w : Nat} {H : Nat → Nat} {M d : Nat} (c : dCr r d = w) (b : (V d).2.2 = false) : fk r V w H M d = min (H d) (fpm r V w H M d / dLn r d) := if_pos ⟨c, b⟩
theorem fk_n {r : Nat → Int32} {V : Nat → Vd} {w : Nat} {H : Nat → Nat} {M d : Nat} (c : ¬ (dCr r d = w ∧ (V d).2.2 = false)) : fk r V w H M d = 0 := if_neg c
theorem smfk {r : Nat → Int32} {V : Nat → Vd} {w : Nat} {H : Nat → Nat} {M : Nat} (h16 : nD r ≤ 16) (hH : ∀ d, d < nD r → H d ≤ 9) {d : Nat} (hd : d ≤ nD r) : sm (fk r V w H M) d ≤ 144 := by
  have := sm_le (f := fk r V w H M) (b := 9) (n := d) (fun e he => Nat.le_trans (fk_le r V w H M e) (hH e (by omega)))
  omega
theorem l_alone {r : Nat → Int32} {V : Nat → Vd} {S : St} {w M : Nat} {H : Nat → Nat} (hQ : Qc r V S) (hw : w < 8) (hM : M ≤ 240) (hH : ∀ d, d < nD r → H d ≤ 9) : ∀ (m f d : Nat) (U : St), d + m = nD r → m < f → Fr [] [] [38] [] S U → (∀ e, e < nD r → gA U 38 e = nI (if e < d then H e - fk r V w H M e else H e)) →
    ∃ W, f_X2_playAlone_8 f (nI w) (nI (sm (fk r V w H M) d)) (nI (fpm r V w H M d)) (nI d) U = some (nI (sm (fk r V w H M) (nD r)), W) ∧ Fr [] [] [38] [] S W ∧ ∀ e, e < nD r → gA W 38 e = nI (H e - fk r V w H M e) := by
  have h16 := hQ.1.1.n16
  intro m
  induction m with
  | zero =>
    intro f d U hd hf hF hR
    obtain ⟨f, rfl⟩ : ∃ g, f = g + 1 := ⟨f - 1, by omega⟩
    have : d = nD r := by omega
    subst this
    have h1 := (hQ.fr hF rfl rfl rfl rfl rfl).1.I1
    refine ⟨U, ?_, hF, fun e he => by rw [hR e he, if_pos he]⟩
    rw [f_X2_playAlone_8, f_X2_playAlone_120]
    simp (disch := omega) only [k_let, Option.bind_some, ↓reduceIte, eq_self, true_or, or_true, n01_0, n01_1, kb_or, kb_0T, kb_0F, vn_0, vn_1, vn_k, nl_0, nl_1, nl_2, nl_3, nl_4, nl_5, nl_6, nl_7, nl_8, nl_9, nl_10, nl_11, nl_12, nl_13, nl_14, nl_15, nl_16, nl_20, nl_21, nl_22, nl_23, nl_24, nl_25, nl_26, nl_27, nl_28, nl_29, nl_30, nl_31, nl_32, nl_40, nl_41, nl_42, nl_43, nl_45, nl_47, nl_48, nl_50, nl_57, nl_59, nl_60, nl_61, nl_62, nl_63, nl_64, nl_91, nl_93, nl_94, nl_97, nl_98, nl_100, nl_110, nl_122, nl_130, nl_144, nl_160, nl_240, nl_241, nl_255, nl_256, nl_400, nl_800, nl_900, nl_999, nl_1000, nl_1001, nl_1024, nl_1103, nl_1928, nl_4321, nl_5560, nl_12345, nl_1000000, nl_1000003, nl_252645135, nl_858993459, nl_1431655765, nl_1000000000, nI_add, pk_mul, n_sub, n_neg, n_cl, leT, leF, ltT, ltF, eqT, eqF, kbT, s_II, s_In, s_IJ, s_IA, s_IL, s_IR, s_IC, s_JI, s_JJ, s_Jn, s_JA, s_JL, s_JR, s_JC, s_AI, s_AJ, s_AA, s_An, s_AL, s_AR, s_AC, s_LI, s_LJ, s_LA, s_LL, s_Ln, s_LR, s_LC, h1]
  | succ m ih =>
    intro f d U hd hf hF hR
    obtain ⟨f, rfl⟩ : ∃ g, f = g + 1 := ⟨f - 1, by omega⟩
    have hdn : d < nD r := by omega
    have hU := hQ.fr hF rfl rfl rfl rfl rfl
    have h1 := hU.1.I1
    obtain ⟨j1, j2, j3⟩ := hU.2.1 d hdn
    obtain ⟨q1, q2, q3, q4, q5⟩ := hU.1.C hdn
    have c8 := (hU.1.1.cr hdn).2
    obtain ⟨-, l1, l2⟩ := hU.1.1.ln hdn
    have pl := e_lenD hU.1 hdn
    have hd0 := hR d hdn
    rw [if_neg (Nat.lt_irrefl d)] at hd0
    have hp := fpm_le r V w H M d
    have hh := hH d hdn
    have s1 := smfk (V := V) (w := w) (M := M) h16 hH (d := d) (by omega)
    have s2 : sm (fk r V w H M) (d + 1) = sm (fk r V w H M) d + fk r V w H M d := rfl
    have step : ∃ U', f_X2_playAlone_8 (f + 1) (nI w) (nI (sm (fk r V w H M) d)) (nI (fpm r V w H M d)) (nI d) U = f_X2_playAlone_8 f (nI w) (nI (sm (fk r V w H M) (d + 1))) (nI (fpm r V w H M (d + 1))) (nI (d + 1)) U' ∧ Fr [] [] [38] [] S U' ∧ (∀ e, e < nD r → gA U' 38 e = nI (if e < d + 1 then H e - fk r V w H M e else H e)) := by
      rw [s2, fpm_s]
      have non : fk r V w H M d = 0 → (∀ e, e < nD r → gA U 38 e = nI (if e < d + 1 then H e - fk r V w H M e else H e)) := fun z e he => by
        by_cases q : e = d
        · rw [q, hd0, if_pos (Nat.lt_succ_self d), z]; rfl
        · rw [hR e he]
          by_cases q2 : e < d
          · rw [if_pos q2, if_pos (by omega)]
          · rw [if_neg q2, if_neg (by omega)]
      have yes : ∀ t, t = fk r V w H M d → (∀ e, e < nD r → gA (sA U 38 d (nI (H d - t))) 38 e = nI (if e < d + 1 then H e - fk r V w H M e else H e)) := fun t ht e he => by
        rw [s_AA]
        by_cases q : e = d
        · rw [q, u_s, if_pos (Nat.lt_succ_self d), ht]
        · rw [u_n q, hR e he]
          by_cases q2 : e < d
          · rw [if_pos q2, if_pos (by omega)]
          · rw [if_neg q2, if_neg (by omega)]
      by_cases c1 : dCr r d = w
      · cases c2 : (V d).2.2 with
        | true =>
          have z : fk r V w H M d = 0 := fk_n (fun q => by rw [c2] at q; exact Bool.noConfusion q.2)
          refine ⟨U, ?_, hF, non z⟩
          rw [c2] at j3
          rw [z, f_X2_playAlone_8]
          simp (disch := omega) only [k_let, Option.bind_some, ↓reduceIte, eq_self, true_or, or_true, n01_0, n01_1, kb_or, kb_0T, kb_0F, vn_0, vn_1, vn_k, nl_0, nl_1, nl_2, nl_3, nl_4, nl_5, nl_6, nl_7, nl_8, nl_9, nl_10, nl_11, nl_12, nl_13, nl_14, nl_15, nl_16, nl_20, nl_21, nl_22, nl_23, nl_24, nl_25, nl_26, nl_27, nl_28, nl_29, nl_30, nl_31, nl_32, nl_40, nl_41, nl_42, nl_43, nl_45, nl_47, nl_48, nl_50, nl_57, nl_59, nl_60, nl_61, nl_62, nl_63, nl_64, nl_91, nl_93, nl_94, nl_97, nl_98, nl_100, nl_110, nl_122, nl_130, nl_144, nl_160, nl_240, nl_241, nl_255, nl_256, nl_400, nl_800, nl_900, nl_999, nl_1000, nl_1001, nl_1024, nl_1103, nl_1928, nl_4321, nl_5560, nl_12345, nl_1000000, nl_1000003, nl_252645135, nl_858993459, nl_1431655765, nl_1000000000, nI_add, pk_mul, n_sub, n_neg, n_cl, leT, leF, ltT, ltF, eqT, eqF, kbT, s_II, s_In, s_IJ, s_IA, s_IL, s_IR, s_IC, s_JI, s_JJ, s_Jn, s_JA, s_JL, s_JR, s_JC, s_AI, s_AJ, s_AA, s_An, s_AL, s_AR, s_AC, s_LI, s_LJ, s_LA, s_LL, s_Ln, s_LR, s_LC, h1, ↓b_of pl, q2, j3, kB_t, f_X2_playAlone_114, Nat.add_zero, Nat.zero_mul, Nat.sub_zero]
        | false =>
          have z := fk_a (H := H) (M := M) c1 c2
          rw [c2] at j3
          obtain ⟨q, hq⟩ : ∃ q, q = fpm r V w H M d / dLn r d := ⟨_, rfl⟩
          have dv : nI (fpm r V w H M d) / nI (dLn r d) = nI q := by rw [n_div (by omega) (by omega) (by omega), hq]
          have ql : q * dLn r d ≤ fpm r V w H M d := by rw [hq]; exact Nat.div_mul_le_self _ _
          have qp : q ≤ fpm r V w H M d := by rw [hq]; exact Nat.div_le_self _ _
          rw [← hq] at z
          by_cases c3 : q < H d
          · have z2 : fk r V w H M d = q := by omega
            refine ⟨sA U 38 d (nI (H d - q)), ?_, hF.sA rfl _ _, yes q z2.symm⟩
            rw [z2, f_X2_playAlone_8]
            simp (disch := omega) only [k_let, Option.bind_some, ↓reduceIte, eq_self, true_or, or_true, n01_0, n01_1, kb_or, kb_0T, kb_0F, vn_0, vn_1, vn_k, nl_0, nl_1, nl_2, nl_3, nl_4, nl_5, nl_6, nl_7, nl_8, nl_9, nl_10, nl_11, nl_12, nl_13, nl_14, nl_15, nl_16, nl_20, nl_21, nl_22, nl_23, nl_24, nl_25, nl_26, nl_27, nl_28, nl_29, nl_30, nl_31, nl_32, nl_40, nl_41, nl_42, nl_43, nl_45, nl_47, nl_48, nl_50, nl_57, nl_59, nl_60, nl_61, nl_62, nl_63, nl_64, nl_91, nl_93, nl_94, nl_97, nl_98, nl_100, nl_110, nl_122, nl_130, nl_144, nl_160, nl_240, nl_241, nl_255, nl_256, nl_400, nl_800, nl_900, nl_999, nl_1000, nl_1001, nl_1024, nl_1103, nl_1928, nl_4321, nl_5560, nl_12345, nl_1000000, nl_1000003, nl_252645135, nl_858993459, nl_1431655765, nl_1000000000, nI_add, pk_mul, n_sub, n_neg, n_cl, leT, leF, ltT, ltF, eqT, eqF, kbT, s_II, s_In, s_IJ, s_IA, s_IL, s_IR, s_IC, s_JI, s_JJ, s_Jn, s_JA, s_JL, s_JR, s_JC, s_AI, s_AJ, s_AA, s_An, s_AL, s_AR, s_AC, s_LI, s_LJ, s_LA, s_LL, s_Ln, s_LR, s_LC, h1, ↓b_of pl, q2, j3, kB_f, hd0, dv, f_X2_playAlone_114, not_false_eq_true]
          · have z2 : fk r V w H M d = H d := by omega
            have hl : H d * dLn r d ≤ fpm r V w H M d := Nat.le_trans (Nat.mul_le_mul_right _ (by omega)) ql
            refine ⟨sA U 38 d (nI (H d - H d)), ?_, hF.sA rfl _ _, yes (H d) z2.symm⟩
            rw [z2, f_X2_playAlone_8]
            simp (disch := omega) only [k_let, Option.bind_some, ↓reduceIte, eq_self, true_or, or_true, n01_0, n01_1, kb_or, kb_0T, kb_0F, vn_0, vn_1, vn_k, nl_0, nl_1, nl_2, nl_3, nl_4, nl_5, nl_6, nl_7, nl_8, nl_9, nl_10, nl_11, nl_12, nl_13, nl_14, nl_15, nl_16, nl_20, nl_21, nl_22, nl_23, nl_24, nl_25, nl_26, nl_27, nl_28, nl_29, nl_30, nl_31, nl_32, nl_40, nl_41, nl_42, nl_43, nl_45, nl_47, nl_48, nl_50, nl_57, nl_59, nl_60, nl_61, nl_62, nl_63, nl_64, nl_91, nl_93, nl_94, nl_97, nl_98, nl_100, nl_110, nl_122, nl_130, nl_144, nl_160, nl_240, nl_241, nl_255, nl_256, nl_400, nl_800, nl_900, nl_999, nl_1000, nl_1001, nl_1024, nl_1103, nl_1928, nl_4321, nl_5560, nl_12345, nl_1000000, nl_1000003, nl_252645135, nl_858993459, nl_1431655765, nl_1000000000, nI_add, pk_mul, n_sub, n_neg, n_cl, leT, leF, ltT, ltF, eqT, eqF, kbT, s_II, s_In, s_IJ, s_IA, s_IL, s_IR, s_IC, s_JI, s_JJ, s_Jn, s_JA, s_JL, s_JR, s_JC, s_AI, s_AJ, s_AA, s_An, s_AL, s_AR, s_AC, s_LI, s_LJ, s_LA, s_LL, s_Ln, s_LR, s_LC, h1, ↓b_of pl, q2, j3, kB_f, hd0, dv, f_X2_playAlone_114, not_false_eq_true]
      · have z : fk r V w H M d = 0 := fk_n (fun q => c1 q.1)
        refine ⟨U, ?_, hF, non z⟩
        rw [z, f_X2_playAlone_8]
        simp (disch := omega) only [k_let, Option.bind_some, ↓reduceIte, eq_self, true_or, or_true, n01_0, n01_1, kb_or, kb_0T, kb_0F, vn_0, vn_1, vn_k, nl_0, nl_1, nl_2, nl_3, nl_4, nl_5, nl_6, nl_7, nl_8, nl_9, nl_10, nl_11, nl_12, nl_13, nl_14, nl_15, nl_16, nl_20, nl_21, nl_22, nl_23, nl_24, nl_25, nl_26, nl_27, nl_28, nl_29, nl_30, nl_31, nl_32, nl_40, nl_41, nl_42, nl_43, nl_45, nl_47, nl_48, nl_50, nl_57, nl_59, nl_60, nl_61, nl_62, nl_63, nl_64, nl_91, nl_93, nl_94, nl_97, nl_98, nl_100, nl_110, nl_122, nl_130, nl_144, nl_160, nl_240, nl_241, nl_255, nl_256, nl_400, nl_800, nl_900, nl_999, nl_1000, nl_1001, nl_1024, nl_1103, nl_1928, nl_4321, nl_5560, nl_12345, nl_1000000, nl_1000003, nl_252645135, nl_858993459, nl_1431655765, nl_1000000000, nI_add, pk_mul, n_sub, n_neg, n_cl, leT, leF, ltT, ltF, eqT, eqF, kbT, s_II, s_In, s_IJ, s_IA, s_IL, s_IR, s_IC, s_JI, s_JJ, s_Jn, s_JA, s_JL, s_JR, s_JC, s_AI, s_AJ, s_AA, s_An, s_AL, s_AR, s_AC, s_LI, s_LJ, s_LA, s_LL, s_Ln, s_LR, s_LC, h1, ↓b_of pl, q2, f_X2_playAlone_114, Nat.add_zero, Nat.zero_mul, Nat.sub_zero]
    obtain ⟨U', e1, e2, e3⟩ := step
    rw [e1]
    exact ih f (d + 1) U' (by omega) (by omega) e2 e3
theorem l_m116 {r : Nat → Int32} {V : Nat → Vd} {S : St} {w M L k : Nat} {H : Nat → Nat} {K : Int32 → Int32 → St → Option (Int32 × St)} (hQ : Qm r V S) (hw : r (94 + 2 * k) = nI w) (hw8 : w < 8) (hk : k < 8) (hM : M ≤ 240) (hH : ∀ d, d < nD r → H d ≤ 9) (hL : ∀ d, d ≤ nD r → sm (fk r V w H M) d ≤ L) (hL2 : L ≤ 144) : ∀ (m f d : Nat) (U : St), d + m = nD r → m < f → Fr [] [] [76] [] S U → (∀ e, e < nD r → gA U 76 e = nI (if e < d then H e - fk r V w H M e else H e)) →
    ∃ W, f_X12_free_116 K f (nI (L - sm (fk r V w H M) d)) (nI k) (nI (fpm r V w H M d)) (nI d) U = (if L - sm (fk r V w H M) (nD r) = 0 then some (nI k, W) else K (nI (L - sm (fk r V w H M) (nD r))) (nI (k + 1)) W) ∧ Fr [] [] [76] [] S W ∧ ∀ e, e < nD r → gA W 76 e = nI (H e - fk r V w H M e) := by
  have h16 := hQ.1.1.n16
  intro m
  induction m with
  | zero =>
    intro f d U hd hf hF hR
    obtain ⟨f, rfl⟩ : ∃ g, f = g + 1 := ⟨f - 1, by omega⟩
    have : d = nD r := by omega
    subst this
    have hU := hQ.fr hF rfl rfl rfl rfl
    refine ⟨U, ?_, hF, fun e he => by rw [hR e he, if_pos he]⟩
    rw [f_X12_free_116]
    by_cases c : L - sm (fk r V w H M) (nD r) = 0
    · rw [if_pos c]
      simp (disch := omega) only [k_let, Option.bind_some, ↓reduceIte, eq_self, true_or, or_true, n01_0, n01_1, kb_or, kb_0T, kb_0F, vn_0, vn_1, vn_k, nl_0, nl_1, nl_2, nl_3, nl_4, nl_5, nl_6, nl_7, nl_8, nl_9, nl_10, nl_11, nl_12, nl_13, nl_14, nl_15, nl_16, nl_20, nl_21, nl_22, nl_23, nl_24, nl_25, nl_26, nl_27, nl_28, nl_29, nl_30, nl_31, nl_32, nl_40, nl_41, nl_42, nl_43, nl_45, nl_47, nl_48, nl_50, nl_57, nl_59, nl_60, nl_61, nl_62, nl_63, nl_64, nl_91, nl_93, nl_94, nl_97, nl_98, nl_100, nl_110, nl_122, nl_130, nl_144, nl_160, nl_240, nl_241, nl_255, nl_256, nl_400, nl_800, nl_900, nl_999, nl_1000, nl_1001, nl_1024, nl_1103, nl_1928, nl_4321, nl_5560, nl_12345, nl_1000000, nl_1000003, nl_252645135, nl_858993459, nl_1431655765, nl_1000000000, nI_add, pk_mul, n_sub, n_neg, n_cl, leT, leF, ltT, ltF, eqT, eqF, kbT, s_II, s_In, s_IJ, s_IA, s_IL, s_IR, s_IC, s_JI, s_JJ, s_Jn, s_JA, s_JL, s_JR, s_JC, s_AI, s_AJ, s_AA, s_An, s_AL, s_AR, s_AC, s_LI, s_LJ, s_LA, s_LL, s_Ln, s_LR, s_LC, ↓b_of (e_m_n hU.1), c]
    · rw [if_neg c]
      simp (disch := omega) only [k_let, Option.bind_some, ↓reduceIte, eq_self, true_or, or_true, n01_0, n01_1, kb_or, kb_0T, kb_0F, vn_0, vn_1, vn_k, nl_0, nl_1, nl_2, nl_3, nl_4, nl_5, nl_6, nl_7, nl_8, nl_9, nl_10, nl_11, nl_12, nl_13, nl_14, nl_15, nl_16, nl_20, nl_21, nl_22, nl_23, nl_24, nl_25, nl_26, nl_27, nl_28, nl_29, nl_30, nl_31, nl_32, nl_40, nl_41, nl_42, nl_43, nl_45, nl_47, nl_48, nl_50, nl_57, nl_59, nl_60, nl_61, nl_62, nl_63, nl_64, nl_91, nl_93, nl_94, nl_97, nl_98, nl_100, nl_110, nl_122, nl_130, nl_144, nl_160, nl_240, nl_241, nl_255, nl_256, nl_400, nl_800, nl_900, nl_999, nl_1000, nl_1001, nl_1024, nl_1103, nl_1928, nl_4321, nl_5560, nl_12345, nl_1000000, nl_1000003, nl_252645135, nl_858993459, nl_1431655765, nl_1000000000, nI_add, pk_mul, n_sub, n_neg, n_cl, leT, leF, ltT, ltF, eqT, eqF, kbT, s_II, s_In, s_IJ, s_IA, s_IL, s_IR, s_IC, s_JI, s_JJ, s_Jn, s_JA, s_JL, s_JR, s_JC, s_AI, s_AJ, s_AA, s_An, s_AL, s_AR, s_AC, s_LI, s_LJ, s_LA, s_LL, s_Ln, s_LR, s_LC, ↓b_of (e_m_n hU.1)]
  | succ m ih =>
    intro f d U hd hf hF hR
    obtain ⟨f, rfl⟩ : ∃ g, f = g + 1 := ⟨f - 1, by omega⟩
    have hdn : d < nD r := by omega
    have hU := hQ.fr hF rfl rfl rfl rfl
    obtain ⟨j1, j2, j3⟩ := hU.2.1 d hdn
    have c8 := (hU.1.1.cr hdn).2
    obtain ⟨-, l1, l2⟩ := hU.1.1.ln hdn
    have pl := e_m_ln hU.1 hdn
    have p1 : f_X12_ofDebt (nI d) (1 : Int32) U = some (nI (dCr r d), U) := e_m_cr hU.1 hdn
    have g53 : gA U 53 = r := hU.1.m
    have hd0 := hR d hdn
    rw [if_neg (Nat.lt_irrefl d)] at hd0
    have hp := fpm_le r V w H M d
    have hh := hH d hdn
    have s1 := hL d (by omega)
    have s3 := hL (d + 1) (by omega)
    have s2 : sm (fk r V w H M) (d + 1) = sm (fk r V w H M) d + fk r V w H M d := rfl
    have step : ∃ U', f_X12_free_116 K (f + 1) (nI (L - sm (fk r V w H M) d)) (nI k) (nI (fpm r V w H M d)) (nI d) U = f_X12_free_116 K f (nI (L - sm (fk r V w H M) (d + 1))) (nI k) (nI (fpm r V w H M (d + 1))) (nI (d + 1)) U' ∧ Fr [] [] [76] [] S U' ∧ (∀ e, e < nD r → gA U' 76 e = nI (if e < d + 1 then H e - fk r V w H M e else H e)) := by
      rw [s2] at s3
      rw [s2, fpm_s, ← Nat.sub_sub]
      have yes : ∀ t, t = fk r V w H M d → (∀ e, e < nD r → gA (sA U 76 d (nI (H d - t))) 76 e = nI (if e < d + 1 then H e - fk r V w H M e else H e)) := fun t ht e he => by
        rw [s_AA]
        by_cases q : e = d
        · rw [q, u_s, if_pos (Nat.lt_succ_self d), ht]
        · rw [u_n q, hR e he]
          by_cases q2 : e < d
          · rw [if_pos q2, if_pos (by omega)]
          · rw [if_neg q2, if_neg (by omega)]
      have pl2 : ∀ t, f_X12_lengthOf (nI d) (sA U 76 d (nI (H d - t))) = some (nI (dLn r d), sA U 76 d (nI (H d - t))) := fun t => e_m_ln (hU.fr ((Fr.refl (ci := []) (cj := []) (ca := [76]) (cl := []) U).sA rfl _ _) rfl rfl rfl rfl).1 hdn
      have z0 : ∀ {x : Nat}, x = 0 → H d - x = H d := fun h => by rw [h]; rfl
      by_cases c1 : dCr r d = w
      · cases c2 : (V d).2.2 with
        | true =>
          have z : fk r V w H M d = 0 := fk_n (fun q => by rw [c2] at q; exact Bool.noConfusion q.2)
          refine ⟨sA U 76 d (nI (H d - 0)), ?_, hF.sA rfl _ _, yes 0 z.symm⟩
          rw [c2] at j3
          rw [z, f_X12_free_116]
          simp (disch := omega) only [k_let, Option.bind_some, ↓reduceIte, eq_self, true_or, or_true, n01_0, n01_1, kb_or, kb_0T, kb_0F, vn_0, vn_1, vn_k, nl_0, nl_1, nl_2, nl_3, nl_4, nl_5, nl_6, nl_7, nl_8, nl_9, nl_10, nl_11, nl_12, nl_13, nl_14, nl_15, nl_16, nl_20, nl_21, nl_22, nl_23, nl_24, nl_25, nl_26, nl_27, nl_28, nl_29, nl_30, nl_31, nl_32, nl_40, nl_41, nl_42, nl_43, nl_45, nl_47, nl_48, nl_50, nl_57, nl_59, nl_60, nl_61, nl_62, nl_63, nl_64, nl_91, nl_93, nl_94, nl_97, nl_98, nl_100, nl_110, nl_122, nl_130, nl_144, nl_160, nl_240, nl_241, nl_255, nl_256, nl_400, nl_800, nl_900, nl_999, nl_1000, nl_1001, nl_1024, nl_1103, nl_1928, nl_4321, nl_5560, nl_12345, nl_1000000, nl_1000003, nl_252645135, nl_858993459, nl_1431655765, nl_1000000000, nI_add, pk_mul, n_sub, n_neg, n_cl, leT, leF, ltT, ltF, eqT, eqF, kbT, s_II, s_In, s_IJ, s_IA, s_IL, s_IR, s_IC, s_JI, s_JJ, s_Jn, s_JA, s_JL, s_JR, s_JC, s_AI, s_AJ, s_AA, s_An, s_AL, s_AR, s_AC, s_LI, s_LJ, s_LA, s_LL, s_Ln, s_LR, s_LC, ↓b_of (e_m_n hU.1), ↓b_of p1, ↓b_of pl, ↓b_of (pl2 0), g53, hw, j3, hd0, kB_t, f_X12_free_160, f_X12_free_161, f_X12_free_207, not_false_eq_true, Nat.zero_mul]
        | false =>
          have z := fk_a (H := H) (M := M) c1 c2
          rw [c2] at j3
          obtain ⟨q, hq⟩ : ∃ q, q = fpm r V w H M d / dLn r d := ⟨_, rfl⟩
          have dv : nI (fpm r V w H M d) / nI (dLn r d) = nI q := by rw [n_div (by omega) (by omega) (by omega), hq]
          have ql : q * dLn r d ≤ fpm r V w H M d := by rw [hq]; exact Nat.div_mul_le_self _ _
          have qp : q ≤ fpm r V w H M d := by rw [hq]; exact Nat.div_le_self _ _
          rw [← hq] at z
          by_cases c3 : H d ≤ q
          · have z2 : fk r V w H M d = H d := by omega
            have hl : H d * dLn r d ≤ fpm r V w H M d := Nat.le_trans (Nat.mul_le_mul_right _ (by omega)) ql
            refine ⟨sA U 76 d (nI (H d - H d)), ?_, hF.sA rfl _ _, yes (H d) z2.symm⟩
            rw [z2, f_X12_free_116]
            simp (disch := omega) only [k_let, Option.bind_some, ↓reduceIte, eq_self, true_or, or_true, n01_0, n01_1, kb_or, kb_0T, kb_0F, vn_0, vn_1, vn_k, nl_0, nl_1, nl_2, nl_3, nl_4, nl_5, nl_6, nl_7, nl_8, nl_9, nl_10, nl_11, nl_12, nl_13, nl_14, nl_15, nl_16, nl_20, nl_21, nl_22, nl_23, nl_24, nl_25, nl_26, nl_27, nl_28, nl_29, nl_30, nl_31, nl_32, nl_40, nl_41, nl_42, nl_43, nl_45, nl_47, nl_48, nl_50, nl_57, nl_59, nl_60, nl_61, nl_62, nl_63, nl_64, nl_91, nl_93, nl_94, nl_97, nl_98, nl_100, nl_110, nl_122, nl_130, nl_144, nl_160, nl_240, nl_241, nl_255, nl_256, nl_400, nl_800, nl_900, nl_999, nl_1000, nl_1001, nl_1024, nl_1103, nl_1928, nl_4321, nl_5560, nl_12345, nl_1000000, nl_1000003, nl_252645135, nl_858993459, nl_1431655765, nl_1000000000, nI_add, pk_mul, n_sub, n_neg, n_cl, leT, leF, ltT, ltF, eqT, eqF, kbT, s_II, s_In, s_IJ, s_IA, s_IL, s_IR, s_IC, s_JI, s_JJ, s_Jn, s_JA, s_JL, s_JR, s_JC, s_AI, s_AJ, s_AA, s_An, s_AL, s_AR, s_AC, s_LI, s_LJ, s_LA, s_LL, s_Ln, s_LR, s_LC, ↓b_of (e_m_n hU.1), ↓b_of p1, ↓b_of pl, ↓b_of (pl2 (H d)), g53, hw, j3, hd0, dv, kB_f, f_X12_free_160, f_X12_free_161, f_X12_free_207, not_false_eq_true]
          · have z2 : fk r V w H M d = q := by omega
            refine ⟨sA U 76 d (nI (H d - q)), ?_, hF.sA rfl _ _, yes q z2.symm⟩
            rw [z2, f_X12_free_116]
            simp (disch := omega) only [k_let, Option.bind_some, ↓reduceIte, eq_self, true_or, or_true, n01_0, n01_1, kb_or, kb_0T, kb_0F, vn_0, vn_1, vn_k, nl_0, nl_1, nl_2, nl_3, nl_4, nl_5, nl_6, nl_7, nl_8, nl_9, nl_10, nl_11, nl_12, nl_13, nl_14, nl_15, nl_16, nl_20, nl_21, nl_22, nl_23, nl_24, nl_25, nl_26, nl_27, nl_28, nl_29, nl_30, nl_31, nl_32, nl_40, nl_41, nl_42, nl_43, nl_45, nl_47, nl_48, nl_50, nl_57, nl_59, nl_60, nl_61, nl_62, nl_63, nl_64, nl_91, nl_93, nl_94, nl_97, nl_98, nl_100, nl_110, nl_122, nl_130, nl_144, nl_160, nl_240, nl_241, nl_255, nl_256, nl_400, nl_800, nl_900, nl_999, nl_1000, nl_1001, nl_1024, nl_1103, nl_1928, nl_4321, nl_5560, nl_12345, nl_1000000, nl_1000003, nl_252645135, nl_858993459, nl_1431655765, nl_1000000000, nI_add, pk_mul, n_sub, n_neg, n_cl, leT, leF, ltT, ltF, eqT, eqF, kbT, s_II, s_In, s_IJ, s_IA, s_IL, s_IR, s_IC, s_JI, s_JJ, s_Jn, s_JA, s_JL, s_JR, s_JC, s_AI, s_AJ, s_AA, s_An, s_AL, s_AR, s_AC, s_LI, s_LJ, s_LA, s_LL, s_Ln, s_LR, s_LC, ↓b_of (e_m_n hU.1), ↓b_of p1, ↓b_of pl, ↓b_of (pl2 q), g53, hw, j3, hd0, dv, kB_f, f_X12_free_160, f_X12_free_161, f_X12_free_207, not_false_eq_true]
      · have z : fk r V w H M d = 0 := fk_n (fun q => c1 q.1)
        refine ⟨sA U 76 d (nI (H d - 0)), ?_, hF.sA rfl _ _, yes 0 z.symm⟩
        rw [z, f_X12_free_116]
        simp (disch := omega) only [k_let, Option.bind_some, ↓reduceIte, eq_self, true_or, or_true, n01_0, n01_1, kb_or, kb_0T, kb_0F, vn_0, vn_1, vn_k, nl_0, nl_1, nl_2, nl_3, nl_4, nl_5, nl_6, nl_7, nl_8, nl_9, nl_10, nl_11, nl_12, nl_13, nl_14, nl_15, nl_16, nl_20, nl_21, nl_22, nl_23, nl_24, nl_25, nl_26, nl_27, nl_28, nl_29, nl_30, nl_31, nl_32, nl_40, nl_41, nl_42, nl_43, nl_45, nl_47, nl_48, nl_50, nl_57, nl_59, nl_60, nl_61, nl_62, nl_63, nl_64, nl_91, nl_93, nl_94, nl_97, nl_98, nl_100, nl_110, nl_122, nl_130, nl_144, nl_160, nl_240, nl_241, nl_255, nl_256, nl_400, nl_800, nl_900, nl_999, nl_1000, nl_1001, nl_1024, nl_1103, nl_1928, nl_4321, nl_5560, nl_12345, nl_1000000, nl_1000003, nl_252645135, nl_858993459, nl_1431655765, nl_1000000000, nI_add, pk_mul, n_sub, n_neg, n_cl, leT, leF, ltT, ltF, eqT, eqF, kbT, s_II, s_In, s_IJ, s_IA, s_IL, s_IR, s_IC, s_JI, s_JJ, s_Jn, s_JA, s_JL, s_JR, s_JC, s_AI, s_AJ, s_AA, s_An, s_AL, s_AR, s_AC, s_LI, s_LJ, s_LA, s_LL, s_Ln, s_LR, s_LC, ↓b_of (e_m_n hU.1), ↓b_of p1, ↓b_of pl, ↓b_of (pl2 0), g53, hw, hd0, f_X12_free_160, f_X12_free_161, f_X12_free_207, not_false_eq_true, Nat.zero_mul]
    obtain ⟨U', e1, e2, e3⟩ := step
    rw [e1]
    exact ih f (d + 1) U' (by omega) (by omega) e2 e3
