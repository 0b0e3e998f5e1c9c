/-! part 86: the draws of an evening -/
def nx (s : Nat) : Nat := (s * 1103 + 12345) % 1000003
theorem nx_lt (s : Nat) : nx s < 1000003 := Nat.mod_lt _ (by decide)
theorem n_mod {a m : Nat} (ha : a < 2147483648) (h0 : 0 < m) (hm : m < 2147483648) : nI a - nI a / nI m * nI m = nI (a % m) := by
  rw [n_div ha h0 hm, pk_mul, n_sub (Nat.div_mul_le_self a m)]
  have := Nat.div_add_mod a m
  rw [Nat.mul_comm] at this
  congr 1
  omega
theorem L_mod {a m : Nat} (ha : a < 9223372036854775807) (h0 : 0 < m) (hm : m < 2147483648) : lZ (a : Int) - lZ (a : Int) / lZ (m : Int) * lZ (m : Int) = lZ ((a % m : Nat) : Int) := by
  rw [L_div (by omega) (by omega) (by omega) (by omega), L_mul, L_sub]
  have := Nat.div_add_mod a m
  rw [Nat.mul_comm] at this
  have e : (a : Int).tdiv (m : Int) = ((a / m : Nat) : Int) := rfl
  rw [e, ← Int.natCast_mul]
  congr 1
  omega
theorem e_cdraw {s m : Nat} {S : St} (hs : s ≤ 1000002) (h0 : 0 < m) (hm : m < 1000) (h : gI S 29 = nI s) : f_X6_draw (nI m) S = some (nI (nx s % m), sI S 29 (nI (nx s))) := by
  have b := nx_lt s
  have e1 : nI (s * 1103 + 12345) - nI (s * 1103 + 12345) / nI 1000003 * nI 1000003 = nI (nx s) := n_mod (by omega) (by decide) (by decide)
  have e2 : nI (nx s) - nI (nx s) / nI m * nI m = nI (nx s % m) := n_mod (by omega) h0 (by omega)
  unfold f_X6_draw f_X6_draw_33
  rw [h, show nI s * (1103 : Int32) + (12345 : Int32) = nI (s * 1103 + 12345) from by rw [nl_1103, nl_12345, pk_mul, nI_add]]
  rw [nl_1000003, e1]
  simp (disch := omega) only [k_let, Option.bind_some, ↓reduceIte, eq_self, true_or, or_true, n01_0, n01_1, kb_or, kb_0T, kb_0F, vn_0, vn_1, vn_k, nl_0, nl_1, nl_2, nl_3, nl_4, nl_5, nl_6, nl_7, nl_8, nl_9, nl_10, nl_11, nl_12, nl_13, nl_14, nl_15, nl_16, nl_20, nl_21, nl_22, nl_23, nl_24, nl_25, nl_26, nl_27, nl_28, nl_29, nl_30, nl_31, nl_32, nl_40, nl_41, nl_42, nl_43, nl_45, nl_47, nl_48, nl_50, nl_57, nl_59, nl_60, nl_61, nl_62, nl_63, nl_64, nl_91, nl_93, nl_94, nl_97, nl_98, nl_100, nl_110, nl_122, nl_130, nl_144, nl_160, nl_240, nl_241, nl_255, nl_256, nl_400, nl_800, nl_900, nl_999, nl_1000, nl_1001, nl_1024, nl_1103, nl_1928, nl_4321, nl_5560, nl_12345, nl_1000000, nl_1000003, nl_252645135, nl_858993459, nl_1431655765, nl_1000000000, leT, leF, ltT, ltF, eqT, eqF, kbT, s_II, e2, not_false_eq_true]
theorem e_mdraw {s m : Nat} {S : St} (hs : s ≤ 1000002) (h0 : 0 < m) (hm : m < 1000) (h : gJ S 3 = lZ (s : Int)) : f_X12_draw (nI m) S = some (nI (nx s % m), sJ S 3 (lZ ((nx s : Nat) : Int))) := by
  have b := nx_lt s
  have e1 : lZ ((s * 1103 + 12345 : Nat) : Int) - lZ ((s * 1103 + 12345 : Nat) : Int) / lZ ((1000003 : Nat) : Int) * lZ ((1000003 : Nat) : Int) = lZ ((nx s : Nat) : Int) := L_mod (by omega) (by decide) (by decide)
  have e2 : lZ ((nx s : Nat) : Int) - lZ ((nx s : Nat) : Int) / lZ ((m : Nat) : Int) * lZ ((m : Nat) : Int) = lZ ((nx s % m : Nat) : Int) := L_mod (by omega) h0 (by omega)
  unfold f_X12_draw
  rw [h, show lZ (s : Int) * (1103 : Int64) + (12345 : Int64) = lZ ((s * 1103 + 12345 : Nat) : Int) from by
    rw [ll_1103, ll_12345, L_mul, L_add]; congr 1]
  rw [ll_1000003, show (lZ 1000003) = lZ ((1000003 : Nat) : Int) from rfl, e1, L_n (by omega)]
  have hz : ¬ lZ (m : Int) = (0 : Int64) := by
    rw [ll_0, L_eq (by omega) (by omega) (by omega) (by omega)]
    omega
  have ej : gJ (sJ S 3 (lZ ((nx s : Nat) : Int))) 3 = lZ ((nx s : Nat) : Int) := s_JJ _ _ _
  show (if ¬ lZ (m : Int) = 0 then some ((gJ (sJ S 3 (lZ ((nx s : Nat) : Int))) 3 - gJ (sJ S 3 (lZ ((nx s : Nat) : Int))) 3 / lZ (m : Int) * lZ (m : Int)).toInt32, sJ S 3 (lZ ((nx s : Nat) : Int))) else none) = _
  rw [if_pos hz, ej, e2, L_I]
  rfl
def tkP (r : Nat → Int32) (O : Nat → Nat) (w t d : Nat) : Bool := decide (dTu r d = t) && (!decide (O d = w) && !decide (dCr r d = w))
def lwF (P : Nat → Bool) : Nat → Nat → Nat
  | 0, d => d
  | m + 1, d => if P d = true then d else lwF P m (d + 1)
theorem lwF_le (P : Nat → Bool) : ∀ m d, lwF P m d ≤ d + m := by
  intro m
  induction m with
  | zero => intro d; exact Nat.le_refl _
  | succ m ih =>
    intro d
    show (if P d = true then d else lwF P m (d + 1)) ≤ _
    by_cases c : P d = true
    · rw [if_pos c]; omega
    · rw [if_neg c]; have := ih (d + 1); omega
theorem l_takes {r : Nat → Int32} {U : St} {O : Nat → Nat} {w t : Nat} (h : Ic r U) (hw : w < 8) (ht : t < 6) (hO : ∀ e, e < nD r → gA U 45 e = nI (O e) ∧ O e < 8) : ∀ (m f d : Nat), d + m = nD r → m < f →
    f_X6_takesOver_2 f (nI w) (nI t) (nI d) U = if lwF (tkP r O w t) m d < nD r then some (nI 1, sA U 45 (lwF (tkP r O w t) m d) (nI w)) else some (nI 0, U) := by
  have h16 := h.1.n16
  have h1 := h.I1
  intro m
  induction m with
  | zero =>
    intro f d hd hf
    obtain ⟨f, rfl⟩ : ∃ g, f = g + 1 := ⟨f - 1, by omega⟩
    have : d = nD r := by omega
    subst this
    rw [if_neg (show ¬ lwF (tkP r O w t) 0 (nD r) < nD r from Nat.lt_irrefl _), f_X6_takesOver_2, f_X6_takesOver_70]
    simp (disch := omega) only [k_let, Option.bind_some, ↓reduceIte, eq_self, true_or, or_true, n01_0, n01_1, kb_or, kb_0T, kb_0F, vn_0, vn_1, vn_k, nl_0, nl_1, nl_2, nl_3, nl_4, nl_5, nl_6, nl_7, nl_8, nl_9, nl_10, nl_11, nl_12, nl_13, nl_14, nl_15, nl_16, nl_20, nl_21, nl_22, nl_23, nl_24, nl_25, nl_26, nl_27, nl_28, nl_29, nl_30, nl_31, nl_32, nl_40, nl_41, nl_42, nl_43, nl_45, nl_47, nl_48, nl_50, nl_57, nl_59, nl_60, nl_61, nl_62, nl_63, nl_64, nl_91, nl_93, nl_94, nl_97, nl_98, nl_100, nl_110, nl_122, nl_130, nl_144, nl_160, nl_240, nl_241, nl_255, nl_256, nl_400, nl_800, nl_900, nl_999, nl_1000, nl_1001, nl_1024, nl_1103, nl_1928, nl_4321, nl_5560, nl_12345, nl_1000000, nl_1000003, nl_252645135, nl_858993459, nl_1431655765, nl_1000000000, nI_add, pk_mul, n_sub, n_neg, n_cl, leT, leF, ltT, ltF, eqT, eqF, kbT, s_II, s_In, s_IJ, s_IA, s_IL, s_IR, s_IC, s_JI, s_JJ, s_Jn, s_JA, s_JL, s_JR, s_JC, s_AI, s_AJ, s_AA, s_An, s_AL, s_AR, s_AC, s_LI, s_LJ, s_LA, s_LL, s_Ln, s_LR, s_LC, h1]
  | succ m ih =>
    intro f d hd hf
    obtain ⟨f, rfl⟩ : ∃ g, f = g + 1 := ⟨f - 1, by omega⟩
    have hdn : d < nD r := by omega
    obtain ⟨q1, q2, q3, q4, q5⟩ := h.C hdn
    obtain ⟨o1, o2⟩ := hO d hdn
    have c8 := (h.1.cr hdn).2
    have t8 := (h.1.tu hdn).2
    have t6 := h.1.t6
    have el : lwF (tkP r O w t) (m + 1) d = if tkP r O w t d = true then d else lwF (tkP r O w t) m (d + 1) := rfl
    have el0 : tkP r O w t d = false → lwF (tkP r O w t) (m + 1) d = lwF (tkP r O w t) m (d + 1) := fun z => by rw [el, z]; rfl
    have el1 : tkP r O w t d = true → lwF (tkP r O w t) (m + 1) d = d := fun z => by rw [el, z]; rfl
    by_cases c1 : dTu r d = t
    · by_cases c2 : O d = w
      · have z : tkP r O w t d = false := by unfold tkP; rw [decide_eq_true c2]; simp
        rw [el0 z, ← ih f (d + 1) (by omega) (by omega), f_X6_takesOver_2]
        simp (disch := omega) only [k_let, Option.bind_some, ↓reduceIte, eq_self, true_or, or_true, n01_0, n01_1, kb_or, kb_0T, kb_0F, vn_0, vn_1, vn_k, nl_0, nl_1, nl_2, nl_3, nl_4, nl_5, nl_6, nl_7, nl_8, nl_9, nl_10, nl_11, nl_12, nl_13, nl_14, nl_15, nl_16, nl_20, nl_21, nl_22, nl_23, nl_24, nl_25, nl_26, nl_27, nl_28, nl_29, nl_30, nl_31, nl_32, nl_40, nl_41, nl_42, nl_43, nl_45, nl_47, nl_48, nl_50, nl_57, nl_59, nl_60, nl_61, nl_62, nl_63, nl_64, nl_91, nl_93, nl_94, nl_97, nl_98, nl_100, nl_110, nl_122, nl_130, nl_144, nl_160, nl_240, nl_241, nl_255, nl_256, nl_400, nl_800, nl_900, nl_999, nl_1000, nl_1001, nl_1024, nl_1103, nl_1928, nl_4321, nl_5560, nl_12345, nl_1000000, nl_1000003, nl_252645135, nl_858993459, nl_1431655765, nl_1000000000, nI_add, pk_mul, n_sub, n_neg, n_cl, leT, leF, ltT, ltF, eqT, eqF, kbT, s_II, s_In, s_IJ, s_IA, s_IL, s_IR, s_IC, s_JI, s_JJ, s_Jn, s_JA, s_JL, s_JR, s_JC, s_AI, s_AJ, s_AA, s_An, s_AL, s_AR, s_AC, s_LI, s_LJ, s_LA, s_LL, s_Ln, s_LR, s_LC, h1, q3, o1, f_X6_takesOver_64]
      · by_cases c3 : dCr r d = w
        · have z : tkP r O w t d = false := by unfold tkP; rw [decide_eq_true c3]; simp
          rw [el0 z, ← ih f (d + 1) (by omega) (by omega), f_X6_takesOver_2]
          simp (disch := omega) only [k_let, Option.bind_some, ↓reduceIte, eq_self, true_or, or_true, n01_0, n01_1, kb_or, kb_0T, kb_0F, vn_0, vn_1, vn_k, nl_0, nl_1, nl_2, nl_3, nl_4, nl_5, nl_6, nl_7, nl_8, nl_9, nl_10, nl_11, nl_12, nl_13, nl_14, nl_15, nl_16, nl_20, nl_21, nl_22, nl_23, nl_24, nl_25, nl_26, nl_27, nl_28, nl_29, nl_30, nl_31, nl_32, nl_40, nl_41, nl_42, nl_43, nl_45, nl_47, nl_48, nl_50, nl_57, nl_59, nl_60, nl_61, nl_62, nl_63, nl_64, nl_91, nl_93, nl_94, nl_97, nl_98, nl_100, nl_110, nl_122, nl_130, nl_144, nl_160, nl_240, nl_241, nl_255, nl_256, nl_400, nl_800, nl_900, nl_999, nl_1000, nl_1001, nl_1024, nl_1103, nl_1928, nl_4321, nl_5560, nl_12345, nl_1000000, nl_1000003, nl_252645135, nl_858993459, nl_1431655765, nl_1000000000, nI_add, pk_mul, n_sub, n_neg, n_cl, leT, leF, ltT, ltF, eqT, eqF, kbT, s_II, s_In, s_IJ, s_IA, s_IL, s_IR, s_IC, s_JI, s_JJ, s_Jn, s_JA, s_JL, s_JR, s_JC, s_AI, s_AJ, s_AA, s_An, s_AL, s_AR, s_AC, s_LI, s_LJ, s_LA, s_LL, s_Ln, s_LR, s_LC, h1, q3, q2, o1, f_X6_takesOver_64]
        · have z : tkP r O w t d = true := by unfold tkP; rw [decide_eq_true c1, decide_eq_false c2, decide_eq_false c3]; rfl
          rw [el1 z, if_pos hdn, f_X6_takesOver_2]
          simp (disch := omega) only [k_let, Option.bind_some, ↓reduceIte, eq_self, true_or, or_true, n01_0, n01_1, kb_or, kb_0T, kb_0F, vn_0, vn_1, vn_k, nl_0, nl_1, nl_2, nl_3, nl_4, nl_5, nl_6, nl_7, nl_8, nl_9, nl_10, nl_11, nl_12, nl_13, nl_14, nl_15, nl_16, nl_20, nl_21, nl_22, nl_23, nl_24, nl_25, nl_26, nl_27, nl_28, nl_29, nl_30, nl_31, nl_32, nl_40, nl_41, nl_42, nl_43, nl_45, nl_47, nl_48, nl_50, nl_57, nl_59, nl_60, nl_61, nl_62, nl_63, nl_64, nl_91, nl_93, nl_94, nl_97, nl_98, nl_100, nl_110, nl_122, nl_130, nl_144, nl_160, nl_240, nl_241, nl_255, nl_256, nl_400, nl_800, nl_900, nl_999, nl_1000, nl_1001, nl_1024, nl_1103, nl_1928, nl_4321, nl_5560, nl_12345, nl_1000000, nl_1000003, nl_252645135, nl_858993459, nl_1431655765, nl_1000000000, nI_add, pk_mul, n_sub, n_neg, n_cl, leT, leF, ltT, ltF, eqT, eqF, kbT, s_II, s_In, s_IJ, s_IA, s_IL, s_IR, s_IC, s_JI, s_JJ, s_Jn, s_JA, s_JL, s_JR, s_JC, s_AI, s_AJ, s_AA, s_An, s_AL, s_AR, s_AC, s_LI, s_LJ, s_LA, s_LL, s_Ln, s_LR, s_LC, h1, q3, q2, o1]
    · have z : tkP r O w t d = false := by unfold tkP; rw [decide_eq_false c1]; rfl
      rw [el0 z, ← ih f (d + 1) (by omega) (by omega), f_X6_takesOver_2]
      simp (disch := omega) only [k_let, Option.bind_some, ↓reduceIte, eq_self, true_or, or_true, n01_0, n01_1, kb_or, kb_0T, kb_0F, vn_0, vn_1, vn_k, nl_0, nl_1, nl_2, nl_3, nl_4, nl_5, nl_6, nl_7, nl_8, nl_9, nl_10, nl_11, nl_12, nl_13, nl_14, nl_15, nl_16, nl_20, nl_21, nl_22, nl_23, nl_24, nl_25, nl_26, nl_27, nl_28, nl_29, nl_30, nl_31, nl_32, nl_40, nl_41, nl_42, nl_43, nl_45, nl_47, nl_48, nl_50, nl_57, nl_59, nl_60, nl_61, nl_62, nl_63, nl_64, nl_91, nl_93, nl_94, nl_97, nl_98, nl_100, nl_110, nl_122, nl_130, nl_144, nl_160, nl_240, nl_241, nl_255, nl_256, nl_400, nl_800, nl_900, nl_999, nl_1000, nl_1001, nl_1024, nl_1103, nl_1928, nl_4321, nl_5560, nl_12345, nl_1000000, nl_1000003, nl_252645135, nl_858993459, nl_1431655765, nl_1000000000, nI_add, pk_mul, n_sub, n_neg, n_cl, leT, leF, ltT, ltF, eqT, eqF, kbT, s_II, s_In, s_IJ, s_IA, s_IL, s_IR, s_IC, s_JI, s_JJ, s_Jn, s_JA, s_JL, s_JR, s_JC, s_AI, s_AJ, s_AA, s_An, s_AL, s_AR, s_AC, s_LI, s_LJ, s_LA, s_LL, s_Ln, s_LR, s_LC, h1, q3, f_X6_takesOver_64]
def xvF (P : Nat → Bool) (n d : Nat) : Int32 := if lwF P (n - d) d < n then nI (lwF P (n - d) d) else iZ (-((1 : Nat) : Int))
theorem l_m123 {r : Nat → Int32} {U : St} {O : Nat → Nat} {w t : Nat} {K : Int32 → Int32 → Int32 → St → Option (Int32 × St)} {x2 x3 x4 : Int32} (h : Ir r U) (hw : w < 8) (ht : t < 6) (hO : ∀ e, e < nD r → gA U 79 e = nI (O e) ∧ O e < 8) : ∀ (d f : Nat), d ≤ nD r → d < f →
    f_X12_evenings_123 K f x2 x3 x4 (nI w) (nI t) (xvF (tkP r O w t) (nD r) d) (iZ ((d : Int) + -((1 : Nat) : Int))) U = if lwF (tkP r O w t) (nD r) 0 < nD r then K x2 (x3 + nI 1) (x4 + nI 1) (sA U 79 (lwF (tkP r O w t) (nD r) 0) (nI w)) else K x2 x3 (x4 + nI 1) U := by
  have h16 := h.1.n16
  intro d
  induction d with
  | zero =>
    intro f hd hf
    obtain ⟨f, rfl⟩ : ∃ g, f = g + 1 := ⟨f - 1, by omega⟩
    rw [f_X12_evenings_123]
    unfold xvF
    rw [Nat.sub_zero]
    by_cases c : lwF (tkP r O w t) (nD r) 0 < nD r
    · rw [if_pos c, if_pos c]
      simp (disch := omega) only [k_let, Option.bind_some, ↓reduceIte, eq_self, true_or, or_true, n01_0, n01_1, kb_or, kb_0T, kb_0F, vn_0, vn_1, vn_k, nl_0, nl_1, nl_2, nl_3, nl_4, nl_5, nl_6, nl_7, nl_8, nl_9, nl_10, nl_11, nl_12, nl_13, nl_14, nl_15, nl_16, nl_20, nl_21, nl_22, nl_23, nl_24, nl_25, nl_26, nl_27, nl_28, nl_29, nl_30, nl_31, nl_32, nl_40, nl_41, nl_42, nl_43, nl_45, nl_47, nl_48, nl_50, nl_57, nl_59, nl_60, nl_61, nl_62, nl_63, nl_64, nl_91, nl_93, nl_94, nl_97, nl_98, nl_100, nl_110, nl_122, nl_130, nl_144, nl_160, nl_240, nl_241, nl_255, nl_256, nl_400, nl_800, nl_900, nl_999, nl_1000, nl_1001, nl_1024, nl_1103, nl_1928, nl_4321, nl_5560, nl_12345, nl_1000000, nl_1000003, nl_252645135, nl_858993459, nl_1431655765, nl_1000000000, nI_add, pk_mul, n_sub, n_neg, n_cl, leT, leF, ltT, ltF, eqT, eqF, kbT, s_II, s_In, s_IJ, s_IA, s_IL, s_IR, s_IC, s_JI, s_JJ, s_Jn, s_JA, s_JL, s_JR, s_JC, s_AI, s_AJ, s_AA, s_An, s_AL, s_AR, s_AC, s_LI, s_LJ, s_LA, s_LL, s_Ln, s_LR, s_LC, zleT, zleF, zltT, zltF, zeqT, zeqF, nzleT, nzleF, nzltT, nzltF, nzeqT, nzeqF, znleT, znleF, znltT, znltF, zneqT, zneqF, z_add, z_sub, z_mul, z_neg, z_an, z_na, z_sn, z_ns, z_mn, z_nm, Nat.add_sub_cancel, decide_true, decide_false, and_self, e_done, e_ref1, e_ref2, e_ref3, e_ref5, e_ref6, e_tel1, e_tel2, e_tel3, e_tel5, e_tel6, e_telN, rfT_m, f_X12_evenings_209]
    · rw [if_neg c, if_neg c]
      simp (disch := omega) only [k_let, Option.bind_some, ↓reduceIte, eq_self, true_or, or_true, n01_0, n01_1, kb_or, kb_0T, kb_0F, vn_0, vn_1, vn_k, nl_0, nl_1, nl_2, nl_3, nl_4, nl_5, nl_6, nl_7, nl_8, nl_9, nl_10, nl_11, nl_12, nl_13, nl_14, nl_15, nl_16, nl_20, nl_21, nl_22, nl_23, nl_24, nl_25, nl_26, nl_27, nl_28, nl_29, nl_30, nl_31, nl_32, nl_40, nl_41, nl_42, nl_43, nl_45, nl_47, nl_48, nl_50, nl_57, nl_59, nl_60, nl_61, nl_62, nl_63, nl_64, nl_91, nl_93, nl_94, nl_97, nl_98, nl_100, nl_110, nl_122, nl_130, nl_144, nl_160, nl_240, nl_241, nl_255, nl_256, nl_400, nl_800, nl_900, nl_999, nl_1000, nl_1001, nl_1024, nl_1103, nl_1928, nl_4321, nl_5560, nl_12345, nl_1000000, nl_1000003, nl_252645135, nl_858993459, nl_1431655765, nl_1000000000, nI_add, pk_mul, n_sub, n_neg, n_cl, leT, leF, ltT, ltF, eqT, eqF, kbT, s_II, s_In, s_IJ, s_IA, s_IL, s_IR, s_IC, s_JI, s_JJ, s_Jn, s_JA, s_JL, s_JR, s_JC, s_AI, s_AJ, s_AA, s_An, s_AL, s_AR, s_AC, s_LI, s_LJ, s_LA, s_LL, s_Ln, s_LR, s_LC, zleT, zleF, zltT, zltF, zeqT, zeqF, nzleT, nzleF, nzltT, nzltF, nzeqT, nzeqF, znleT, znleF, znltT, znltF, zneqT, zneqF, z_add, z_sub, z_mul, z_neg, z_an, z_na, z_sn, z_ns, z_mn, z_nm, Nat.add_sub_cancel, decide_true, decide_false, and_self, e_done, e_ref1, e_ref2, e_ref3, e_ref5, e_ref6, e_tel1, e_tel2, e_tel3, e_tel5, e_tel6, e_telN, rfT_m, f_X12_evenings_209]
  | succ d ih =>
    intro f hd hf
    obtain ⟨f, rfl⟩ : ∃ g, f = g + 1 := ⟨f - 1, by omega⟩
    have hdn : d < nD r := by omega
    obtain ⟨o1, o2⟩ := hO d hdn
    have c8 := (h.1.cr hdn).2
    have t8 := (h.1.tu hdn).2
    have t6 := h.1.t6
    have p1 : f_X12_ofDebt (nI d) (1 : Int32) U = some (nI (dCr r d), U) := e_m_cr h hdn
    have p2 : f_X12_ofDebt (nI d) (2 : Int32) U = some (nI (dTu r d), U) := e_m_tu h hdn
    have ed : iZ (((d + 1 : Nat) : Int) + -((1 : Nat) : Int)) = nI d := by
      rw [show ((d + 1 : Nat) : Int) + -((1 : Nat) : Int) = (d : Int) by omega]; rfl
    have ea : nI d + iZ (-((1 : Nat) : Int)) = iZ ((d : Int) + -((1 : Nat) : Int)) := by
      simp (disch := omega) only [k_let, Option.bind_some, ↓reduceIte, eq_self, true_or, or_true, n01_0, n01_1, kb_or, kb_0T, kb_0F, vn_0, vn_1, vn_k, nl_0, nl_1, nl_2, nl_3, nl_4, nl_5, nl_6, nl_7, nl_8, nl_9, nl_10, nl_11, nl_12, nl_13, nl_14, nl_15, nl_16, nl_20, nl_21, nl_22, nl_23, nl_24, nl_25, nl_26, nl_27, nl_28, nl_29, nl_30, nl_31, nl_32, nl_40, nl_41, nl_42, nl_43, nl_45, nl_47, nl_48, nl_50, nl_57, nl_59, nl_60, nl_61, nl_62, nl_63, nl_64, nl_91, nl_93, nl_94, nl_97, nl_98, nl_100, nl_110, nl_122, nl_130, nl_144, nl_160, nl_240, nl_241, nl_255, nl_256, nl_400, nl_800, nl_900, nl_999, nl_1000, nl_1001, nl_1024, nl_1103, nl_1928, nl_4321, nl_5560, nl_12345, nl_1000000, nl_1000003, nl_252645135, nl_858993459, nl_1431655765, nl_1000000000, nI_add, pk_mul, n_sub, n_neg, n_cl, leT, leF, ltT, ltF, eqT, eqF, kbT, s_II, s_In, s_IJ, s_IA, s_IL, s_IR, s_IC, s_JI, s_JJ, s_Jn, s_JA, s_JL, s_JR, s_JC, s_AI, s_AJ, s_AA, s_An, s_AL, s_AR, s_AC, s_LI, s_LJ, s_LA, s_LL, s_Ln, s_LR, s_LC, zleT, zleF, zltT, zltF, zeqT, zeqF, nzleT, nzleF, nzltT, nzltF, nzeqT, nzeqF, znleT, znleF, znltT, znltF, zneqT, zneqF, z_add, z_sub, z_mul, z_neg, z_an, z_na, z_sn, z_ns, z_mn, z_nm]
    have el : xvF (tkP r O w t) (nD r) d = if tkP r O w t d = true then nI d else xvF (tkP r O w t) (nD r) (d + 1) := by
      unfold xvF
      rw [show nD r - d = (nD r - (d + 1)) + 1 by omega]
      show (if (if tkP r O w t d = true then d else lwF (tkP r O w t) (nD r - (d + 1)) (d + 1)) < nD r then nI (if tkP r O w t d = true then d else lwF (tkP r O w t) (nD r - (d + 1)) (d + 1)) else _) = _
      by_cases z : tkP r O w t d = true
      · rw [if_pos z, if_pos z, if_pos hdn]
      · rw [if_neg z, if_neg z]
    have el0 : tkP r O w t d = false → xvF (tkP r O w t) (nD r) d = xvF (tkP r O w t) (nD r) (d + 1) := fun z => by rw [el, z]; rfl
    have el1 : tkP r O w t d = true → xvF (tkP r O w t) (nD r) d = nI d := fun z => by rw [el, z]; rfl
    rw [ed, ← ih f (by omega) (by omega), f_X12_evenings_123]
    by_cases c1 : dTu r d = t
    · by_cases c2 : O d = w
      · have z : tkP r O w t d = false := by unfold tkP; rw [decide_eq_true c2]; simp
        rw [el0 z]
        simp (disch := omega) only [k_let, Option.bind_some, ↓reduceIte, eq_self, true_or, or_true, n01_0, n01_1, kb_or, kb_0T, kb_0F, vn_0, vn_1, vn_k, nl_0, nl_1, nl_2, nl_3, nl_4, nl_5, nl_6, nl_7, nl_8, nl_9, nl_10, nl_11, nl_12, nl_13, nl_14, nl_15, nl_16, nl_20, nl_21, nl_22, nl_23, nl_24, nl_25, nl_26, nl_27, nl_28, nl_29, nl_30, nl_31, nl_32, nl_40, nl_41, nl_42, nl_43, nl_45, nl_47, nl_48, nl_50, nl_57, nl_59, nl_60, nl_61, nl_62, nl_63, nl_64, nl_91, nl_93, nl_94, nl_97, nl_98, nl_100, nl_110, nl_122, nl_130, nl_144, nl_160, nl_240, nl_241, nl_255, nl_256, nl_400, nl_800, nl_900, nl_999, nl_1000, nl_1001, nl_1024, nl_1103, nl_1928, nl_4321, nl_5560, nl_12345, nl_1000000, nl_1000003, nl_252645135, nl_858993459, nl_1431655765, nl_1000000000, nI_add, pk_mul, n_sub, n_neg, n_cl, leT, leF, ltT, ltF, eqT, eqF, kbT, s_II, s_In, s_IJ, s_IA, s_IL, s_IR, s_IC, s_JI, s_JJ, s_Jn, s_JA, s_JL, s_JR, s_JC, s_AI, s_AJ, s_AA, s_An, s_AL, s_AR, s_AC, s_LI, s_LJ, s_LA, s_LL, s_Ln, s_LR, s_LC, zleT, zleF, zltT, zltF, zeqT, zeqF, nzleT, nzleF, nzltT, nzltF, nzeqT, nzeqF, znleT, znleF, znltT, znltF, zneqT, zneqF, z_add, z_sub, z_mul, z_neg, z_an, z_na, z_sn, z_ns, z_mn, z_nm, Nat.add_sub_cancel, decide_true, decide_false, and_self, e_done, e_ref1, e_ref2, e_ref3, e_ref5, e_ref6, e_tel1, e_tel2, e_tel3, e_tel5, e_tel6, e_telN, rfT_m, ↓b_of p2, ↓b_of p1, o1, f_X12_evenings_168, f_X12_evenings_169, f_X12_evenings_183, ea]
      · by_cases c3 : dCr r d = w
        · have z : tkP r O w t d = false := by unfold tkP; rw [decide_eq_true c3]; simp
          rw [el0 z]
          simp (disch := omega) only [k_let, Option.bind_some, ↓reduceIte, eq_self, true_or, or_true, n01_0, n01_1, kb_or, kb_0T, kb_0F, vn_0, vn_1, vn_k, nl_0, nl_1, nl_2, nl_3, nl_4, nl_5, nl_6, nl_7, nl_8, nl_9, nl_10, nl_11, nl_12, nl_13, nl_14, nl_15, nl_16, nl_20, nl_21, nl_22, nl_23, nl_24, nl_25, nl_26, nl_27, nl_28, nl_29, nl_30, nl_31, nl_32, nl_40, nl_41, nl_42, nl_43, nl_45, nl_47, nl_48, nl_50, nl_57, nl_59, nl_60, nl_61, nl_62, nl_63, nl_64, nl_91, nl_93, nl_94, nl_97, nl_98, nl_100, nl_110, nl_122, nl_130, nl_144, nl_160, nl_240, nl_241, nl_255, nl_256, nl_400, nl_800, nl_900, nl_999, nl_1000, nl_1001, nl_1024, nl_1103, nl_1928, nl_4321, nl_5560, nl_12345, nl_1000000, nl_1000003, nl_252645135, nl_858993459, nl_1431655765, nl_1000000000, nI_add, pk_mul, n_sub, n_neg, n_cl, leT, leF, ltT, ltF, eqT, eqF, kbT, s_II, s_In, s_IJ, s_IA, s_IL, s_IR, s_IC, s_JI, s_JJ, s_Jn, s_JA, s_JL, s_JR, s_JC, s_AI, s_AJ, s_AA, s_An, s_AL, s_AR, s_AC, s_LI, s_LJ, s_LA, s_LL, s_Ln, s_LR, s_LC, zleT, zleF, zltT, zltF, zeqT, zeqF, nzleT, nzleF, nzltT, nzltF, nzeqT, nzeqF, znleT, znleF, znltT, znltF, zneqT, zneqF, z_add, z_sub, z_mul, z_neg, z_an, z_na, z_sn, z_ns, z_mn, z_nm, Nat.add_sub_cancel, decide_true, decide_false, and_self, e_done, e_ref1, e_ref2, e_ref3, e_ref5, e_ref6, e_tel1, e_tel2, e_tel3, e_tel5, e_tel6, e_telN, rfT_m, ↓b_of p2, ↓b_of p1, o1, f_X12_evenings_168, f_X12_evenings_169, f_X12_evenings_183, ea]
        · have z : tkP r O w t d = true := by unfold tkP; rw [decide_eq_true c1, decide_eq_false c2, decide_eq_false c3]; rfl
          rw [el1 z]
          simp (disch := omega) only [k_let, Option.bind_some, ↓reduceIte, eq_self, true_or, or_true, n01_0, n01_1, kb_or, kb_0T, kb_0F, vn_0, vn_1, vn_k, nl_0, nl_1, nl_2, nl_3, nl_4, nl_5, nl_6, nl_7, nl_8, nl_9, nl_10, nl_11, nl_12, nl_13, nl_14, nl_15, nl_16, nl_20, nl_21, nl_22, nl_23, nl_24, nl_25, nl_26, nl_27, nl_28, nl_29, nl_30, nl_31, nl_32, nl_40, nl_41, nl_42, nl_43, nl_45, nl_47, nl_48, nl_50, nl_57, nl_59, nl_60, nl_61, nl_62, nl_63, nl_64, nl_91, nl_93, nl_94, nl_97, nl_98, nl_100, nl_110, nl_122, nl_130, nl_144, nl_160, nl_240, nl_241, nl_255, nl_256, nl_400, nl_800, nl_900, nl_999, nl_1000, nl_1001, nl_1024, nl_1103, nl_1928, nl_4321, nl_5560, nl_12345, nl_1000000, nl_1000003, nl_252645135, nl_858993459, nl_1431655765, nl_1000000000, nI_add, pk_mul, n_sub, n_neg, n_cl, leT, leF, ltT, ltF, eqT, eqF, kbT, s_II, s_In, s_IJ, s_IA, s_IL, s_IR, s_IC, s_JI, s_JJ, s_Jn, s_JA, s_JL, s_JR, s_JC, s_AI, s_AJ, s_AA, s_An, s_AL, s_AR, s_AC, s_LI, s_LJ, s_LA, s_LL, s_Ln, s_LR, s_LC, zleT, zleF, zltT, zltF, zeqT, zeqF, nzleT, nzleF, nzltT, nzltF, nzeqT, nzeqF, znleT, znleF, znltT, znltF, zneqT, zneqF, z_add, z_sub, z_mul, z_neg, z_an, z_na, z_sn, z_ns, z_mn, z_nm, Nat.add_sub_cancel, decide_true, decide_false, and_self, e_done, e_ref1, e_ref2, e_ref3, e_ref5, e_ref6, e_tel1, e_tel2, e_tel3, e_tel5, e_tel6, e_telN, rfT_m, ↓b_of p2, ↓b_of p1, o1, f_X12_evenings_169, f_X12_evenings_183, ea]
    · have z : tkP r O w t d = false := by unfold tkP; rw [decide_eq_false c1]; rfl
      rw [el0 z]
      simp (disch := omega) only [k_let, Option.bind_some, ↓reduceIte, eq_self, true_or, or_true, n01_0, n01_1, kb_or, kb_0T, kb_0F, vn_0, vn_1, vn_k, nl_0, nl_1, nl_2, nl_3, nl_4, nl_5, nl_6, nl_7, nl_8, nl_9, nl_10, nl_11, nl_12, nl_13, nl_14, nl_15, nl_16, nl_20, nl_21, nl_22, nl_23, nl_24, nl_25, nl_26, nl_27, nl_28, nl_29, nl_30, nl_31, nl_32, nl_40, nl_41, nl_42, nl_43, nl_45, nl_47, nl_48, nl_50, nl_57, nl_59, nl_60, nl_61, nl_62, nl_63, nl_64, nl_91, nl_93, nl_94, nl_97, nl_98, nl_100, nl_110, nl_122, nl_130, nl_144, nl_160, nl_240, nl_241, nl_255, nl_256, nl_400, nl_800, nl_900, nl_999, nl_1000, nl_1001, nl_1024, nl_1103, nl_1928, nl_4321, nl_5560, nl_12345, nl_1000000, nl_1000003, nl_252645135, nl_858993459, nl_1431655765, nl_1000000000, nI_add, pk_mul, n_sub, n_neg, n_cl, leT, leF, ltT, ltF, eqT, eqF, kbT, s_II, s_In, s_IJ, s_IA, s_IL, s_IR, s_IC, s_JI, s_JJ, s_Jn, s_JA, s_JL, s_JR, s_JC, s_AI, s_AJ, s_AA, s_An, s_AL, s_AR, s_AC, s_LI, s_LJ, s_LA, s_LL, s_Ln, s_LR, s_LC, zleT, zleF, zltT, zltF, zeqT, zeqF, nzleT, nzleF, nzltT, nzltF, nzeqT, nzeqF, znleT, znleF, znltT, znltF, zneqT, zneqF, z_add, z_sub, z_mul, z_neg, z_an, z_na, z_sn, z_ns, z_mn, z_nm, Nat.add_sub_cancel, decide_true, decide_false, and_self, e_done, e_ref1, e_ref2, e_ref3, e_ref5, e_ref6, e_tel1, e_tel2, e_tel3, e_tel5, e_tel6, e_telN, rfT_m, ↓b_of p2, f_X12_evenings_168, f_X12_evenings_169, f_X12_evenings_183, ea]
