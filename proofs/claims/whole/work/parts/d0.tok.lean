/-! part d0: the tokens of a text; the class's reader of them -/
def sk (t : Nat → Nat) : Nat → Nat → Nat
  | 0, a => a
  | m + 1, a => if t a = 32 then sk t m (a + 1) else a
def rnk (P : Nat → Bool) (t : Nat → Nat) : Nat → Nat → Nat
  | 0, b => b
  | m + 1, b => if P (t b) = true then rnk P t m (b + 1) else b
def smB (c : Nat) : Bool := decide (97 ≤ c ∧ c ≤ 122)
def dgB (c : Nat) : Bool := decide (48 ≤ c ∧ c ≤ 57)
def kd (t : Nat → Nat) (n a : Nat) : Nat := if n ≤ a then 0 else if smB (t a) = true then 1 else if dgB (t a) = true then 2 else 3
def en (t : Nat → Nat) (n a : Nat) : Nat := if n ≤ a then a else if smB (t a) = true then rnk smB t (n - a) a else if dgB (t a) = true then rnk dgB t (n - a) a else a + 1
def tnx (t : Nat → Nat) (n a : Nat) : Nat := sk t (n - en t n a) (en t n a)
def vl (t : Nat → Nat) (a : Nat) : Nat → Nat
  | 0 => 0
  | m + 1 => vl t a m * 10 + (t (a + m) - 48)
def rl (t : Nat → Nat) (a : Nat) : Nat → List Nat
  | 0 => []
  | m + 1 => t (a + m) :: rl t a m
theorem sk_le (t : Nat → Nat) : ∀ m a, a ≤ sk t m a ∧ sk t m a ≤ a + m := by
  intro m
  induction m with
  | zero => intro a; exact ⟨Nat.le_refl _, Nat.le_refl _⟩
  | succ m ih =>
    intro a
    show a ≤ (if t a = 32 then _ else _) ∧ (if t a = 32 then _ else _) ≤ _
    by_cases c : t a = 32
    · rw [if_pos c]; have := ih (a + 1); omega
    · rw [if_neg c]; omega
theorem rnk_le (P : Nat → Bool) (t : Nat → Nat) : ∀ m b, b ≤ rnk P t m b ∧ rnk P t m b ≤ b + m := by
  intro m
  induction m with
  | zero => intro a; exact ⟨Nat.le_refl _, Nat.le_refl _⟩
  | succ m ih =>
    intro a
    show a ≤ (if P (t a) = true then _ else _) ∧ (if P (t a) = true then _ else _) ≤ _
    by_cases c : P (t a) = true
    · rw [if_pos c]; have := ih (a + 1); omega
    · rw [if_neg c]; omega
theorem rnk_all (P : Nat → Bool) (t : Nat → Nat) : ∀ m b i, b ≤ i → i < rnk P t m b → P (t i) = true := by
  intro m
  induction m with
  | zero => intro b i h1 h2; exact absurd h2 (by show ¬ i < b; omega)
  | succ m ih =>
    intro b i h1 h2
    by_cases c : P (t b) = true
    · by_cases q : i = b
      · rw [q]; exact c
      · refine ih (b + 1) i (by omega) ?_
        have e : rnk P t (m + 1) b = rnk P t m (b + 1) := if_pos c
        rw [e] at h2
        exact h2
    · have e : rnk P t (m + 1) b = b := if_neg c
      omega
theorem en_le {t : Nat → Nat} {n a : Nat} (h : a ≤ n) : a ≤ en t n a ∧ en t n a ≤ n := by
  unfold en
  by_cases c : n ≤ a
  · rw [if_pos c]; omega
  · rw [if_neg c]
    by_cases c1 : smB (t a) = true
    · rw [if_pos c1]; have := rnk_le smB t (n - a) a; omega
    · rw [if_neg c1]
      by_cases c2 : dgB (t a) = true
      · rw [if_pos c2]; have := rnk_le dgB t (n - a) a; omega
      · rw [if_neg c2]; omega
theorem rnk_lt {P : Nat → Bool} {t : Nat → Nat} {m b : Nat} (hm : 0 < m) (h : P (t b) = true) : b < rnk P t m b := by
  obtain ⟨k, rfl⟩ : ∃ k, m = k + 1 := ⟨m - 1, by omega⟩
  have e : rnk P t (k + 1) b = rnk P t k (b + 1) := if_pos h
  rw [e]
  have := rnk_le P t k (b + 1)
  omega
theorem en_lt {t : Nat → Nat} {n a : Nat} (h : a < n) : a < en t n a := by
  unfold en
  rw [if_neg (by omega)]
  by_cases c1 : smB (t a) = true
  · rw [if_pos c1]; exact rnk_lt (by omega) c1
  · rw [if_neg c1]
    by_cases c2 : dgB (t a) = true
    · rw [if_pos c2]; exact rnk_lt (by omega) c2
    · rw [if_neg c2]; omega
theorem tnx_le {t : Nat → Nat} {n a : Nat} (h : a ≤ n) : en t n a ≤ tnx t n a ∧ tnx t n a ≤ n := by
  have := en_le (t := t) h
  have := sk_le t (n - en t n a) (en t n a)
  unfold tnx
  omega
theorem kd_lt {t : Nat → Nat} {n a : Nat} (h : kd t n a ≠ 0) : a < n := by
  unfold kd at h
  by_cases c : n ≤ a
  · rw [if_pos c] at h; exact absurd rfl h
  · omega
theorem tnx_lt {t : Nat → Nat} {n a : Nat} (h : kd t n a ≠ 0) : a < tnx t n a ∧ tnx t n a ≤ n := by
  have h1 := kd_lt h
  have := en_lt (t := t) h1
  have := tnx_le (t := t) (n := n) (a := a) (by omega)
  omega
/-- a text in the class's tape -/
def Bt (t : Nat → Nat) (n : Nat) (S : St) : Prop := n ≤ 400 ∧ gI S 8 = nI n ∧ ∀ i, i < n → (gA S 16 i &&& nI 255 = nI (t i) ∧ t i < 256)
theorem Bt.fr {t : Nat → Nat} {n : Nat} {S T : St} {ci cj ca cl : List Nat} (h : Bt t n S) (f : Fr ci cj ca cl S T) (h1 : ci.contains 8 = false) (h2 : ca.contains 16 = false) : Bt t n T := by
  refine ⟨h.1, (f.I h1).trans h.2.1, fun i hi => ?_⟩
  rw [f.A h2]
  exact h.2.2 i hi
theorem e_byteAt {t : Nat → Nat} {n : Nat} {S : St} (h : Bt t n S) {i : Nat} (hi : i < 2147483648) : f_X9_byteAt (nI i) S = some (if i < n then nI (t i) else iZ (-1), S) := by
  have h0 := h.1
  unfold f_X9_byteAt f_X9_byteAt_32 f_X9_byteAt_33
  simp (disch := omega) only [k_let, Option.bind_some, ↓reduceIte, eq_self, true_or, or_true, n01_0, n01_1, kb_or, kb_0T, kb_0F, vn_0, vn_1, vn_k, nl_0, nl_1, nl_2, nl_3, nl_4, nl_5, nl_6, nl_7, nl_8, nl_9, nl_10, nl_11, nl_12, nl_13, nl_14, nl_15, nl_16, nl_20, nl_21, nl_22, nl_23, nl_24, nl_25, nl_26, nl_27, nl_28, nl_29, nl_30, nl_31, nl_32, nl_40, nl_41, nl_42, nl_43, nl_45, nl_47, nl_48, nl_50, nl_57, nl_59, nl_60, nl_61, nl_62, nl_63, nl_64, nl_91, nl_93, nl_94, nl_97, nl_98, nl_100, nl_110, nl_122, nl_130, nl_144, nl_160, nl_240, nl_241, nl_255, nl_256, nl_400, nl_800, nl_900, nl_999, nl_1000, nl_1001, nl_1024, nl_1103, nl_1928, nl_4321, nl_5560, nl_12345, nl_1000000, nl_1000003, nl_252645135, nl_858993459, nl_1431655765, nl_1000000000, nI_add, pk_mul, n_sub, n_neg, n_cl, leT, leF, ltT, ltF, eqT, eqF, kbT, s_II, s_In, s_IJ, s_IA, s_IL, s_IR, s_IC, s_JI, s_JJ, s_Jn, s_JA, s_JL, s_JR, s_JC, s_AI, s_AJ, s_AA, s_An, s_AL, s_AR, s_AC, s_LI, s_LJ, s_LA, s_LL, s_Ln, s_LR, s_LC, h.2.1]
  by_cases c : i < n
  · obtain ⟨a1, a2⟩ := h.2.2 i c
    simp (disch := omega) only [k_let, Option.bind_some, ↓reduceIte, eq_self, true_or, or_true, n01_0, n01_1, kb_or, kb_0T, kb_0F, vn_0, vn_1, vn_k, nl_0, nl_1, nl_2, nl_3, nl_4, nl_5, nl_6, nl_7, nl_8, nl_9, nl_10, nl_11, nl_12, nl_13, nl_14, nl_15, nl_16, nl_20, nl_21, nl_22, nl_23, nl_24, nl_25, nl_26, nl_27, nl_28, nl_29, nl_30, nl_31, nl_32, nl_40, nl_41, nl_42, nl_43, nl_45, nl_47, nl_48, nl_50, nl_57, nl_59, nl_60, nl_61, nl_62, nl_63, nl_64, nl_91, nl_93, nl_94, nl_97, nl_98, nl_100, nl_110, nl_122, nl_130, nl_144, nl_160, nl_240, nl_241, nl_255, nl_256, nl_400, nl_800, nl_900, nl_999, nl_1000, nl_1001, nl_1024, nl_1103, nl_1928, nl_4321, nl_5560, nl_12345, nl_1000000, nl_1000003, nl_252645135, nl_858993459, nl_1431655765, nl_1000000000, nI_add, pk_mul, n_sub, n_neg, n_cl, leT, leF, ltT, ltF, eqT, eqF, kbT, s_II, s_In, s_IJ, s_IA, s_IL, s_IR, s_IC, s_JI, s_JJ, s_Jn, s_JA, s_JL, s_JR, s_JC, s_AI, s_AJ, s_AA, s_An, s_AL, s_AR, s_AC, s_LI, s_LJ, s_LA, s_LL, s_Ln, s_LR, s_LC, a1, if_pos c]
  · simp (disch := omega) only [k_let, Option.bind_some, ↓reduceIte, eq_self, true_or, or_true, n01_0, n01_1, kb_or, kb_0T, kb_0F, vn_0, vn_1, vn_k, nl_0, nl_1, nl_2, nl_3, nl_4, nl_5, nl_6, nl_7, nl_8, nl_9, nl_10, nl_11, nl_12, nl_13, nl_14, nl_15, nl_16, nl_20, nl_21, nl_22, nl_23, nl_24, nl_25, nl_26, nl_27, nl_28, nl_29, nl_30, nl_31, nl_32, nl_40, nl_41, nl_42, nl_43, nl_45, nl_47, nl_48, nl_50, nl_57, nl_59, nl_60, nl_61, nl_62, nl_63, nl_64, nl_91, nl_93, nl_94, nl_97, nl_98, nl_100, nl_110, nl_122, nl_130, nl_144, nl_160, nl_240, nl_241, nl_255, nl_256, nl_400, nl_800, nl_900, nl_999, nl_1000, nl_1001, nl_1024, nl_1103, nl_1928, nl_4321, nl_5560, nl_12345, nl_1000000, nl_1000003, nl_252645135, nl_858993459, nl_1431655765, nl_1000000000, nI_add, pk_mul, n_sub, n_neg, n_cl, leT, leF, ltT, ltF, eqT, eqF, kbT, s_II, s_In, s_IJ, s_IA, s_IL, s_IR, s_IC, s_JI, s_JJ, s_Jn, s_JA, s_JL, s_JR, s_JC, s_AI, s_AJ, s_AA, s_An, s_AL, s_AR, s_AC, s_LI, s_LJ, s_LA, s_LL, s_Ln, s_LR, s_LC, if_neg c]
    rfl
theorem e_byteT {t : Nat → Nat} {n : Nat} {S : St} (h : Bt t n S) {i : Nat} (hi : i < n) : f_X9_byteAt (nI i) S = some (nI (t i), S) := by
  have := h.1
  rw [e_byteAt h (by omega), if_pos hi]
theorem e_byteF {t : Nat → Nat} {n : Nat} {S : St} (h : Bt t n S) {i : Nat} (hi : n ≤ i) (h2 : i < 2147483648) : f_X9_byteAt (nI i) S = some (iZ (-1), S) := by
  rw [e_byteAt h h2, if_neg (by omega)]
theorem sm_iff (c : Nat) : (smB c = true) = (97 ≤ c ∧ c ≤ 122) := by unfold smB; exact decide_eq_true_eq
theorem dg_iff (c : Nat) : (dgB c = true) = (48 ≤ c ∧ c ≤ 57) := by unfold dgB; exact decide_eq_true_eq
theorem e_isLetter {t : Nat → Nat} {n : Nat} {S : St} (h : Bt t n S) {i : Nat} (hi : i < 2147483648) : f_X7_isLetter (nI i) S = some (kB (decide (i < n ∧ smB (t i) = true)), S) := by
  unfold f_X7_isLetter f_X7_isLetter_25 f_X7_isLetter_26
  rw [e_byteAt h hi]
  by_cases c : i < n
  · obtain ⟨a1, a2⟩ := h.2.2 i c
    rw [if_pos c]
    by_cases c1 : t i < 97
    · have : ¬ smB (t i) = true := by rw [sm_iff]; omega
      rw [decide_eq_false (fun h => this h.2)]
      simp (disch := omega) only [k_let, Option.bind_some, ↓reduceIte, eq_self, true_or, or_true, n01_0, n01_1, kb_or, kb_0T, kb_0F, vn_0, vn_1, vn_k, nl_0, nl_1, nl_2, nl_3, nl_4, nl_5, nl_6, nl_7, nl_8, nl_9, nl_10, nl_11, nl_12, nl_13, nl_14, nl_15, nl_16, nl_20, nl_21, nl_22, nl_23, nl_24, nl_25, nl_26, nl_27, nl_28, nl_29, nl_30, nl_31, nl_32, nl_40, nl_41, nl_42, nl_43, nl_45, nl_47, nl_48, nl_50, nl_57, nl_59, nl_60, nl_61, nl_62, nl_63, nl_64, nl_91, nl_93, nl_94, nl_97, nl_98, nl_100, nl_110, nl_122, nl_130, nl_144, nl_160, nl_240, nl_241, nl_255, nl_256, nl_400, nl_800, nl_900, nl_999, nl_1000, nl_1001, nl_1024, nl_1103, nl_1928, nl_4321, nl_5560, nl_12345, nl_1000000, nl_1000003, nl_252645135, nl_858993459, nl_1431655765, nl_1000000000, nI_add, pk_mul, n_sub, n_neg, n_cl, leT, leF, ltT, ltF, eqT, eqF, kbT, s_II, s_In, s_IJ, s_IA, s_IL, s_IR, s_IC, s_JI, s_JJ, s_Jn, s_JA, s_JL, s_JR, s_JC, s_AI, s_AJ, s_AA, s_An, s_AL, s_AR, s_AC, s_LI, s_LJ, s_LA, s_LL, s_Ln, s_LR, s_LC, kB_f]
    · by_cases c2 : 122 < t i
      · have : ¬ smB (t i) = true := by rw [sm_iff]; omega
        rw [decide_eq_false (fun h => this h.2)]
        simp (disch := omega) only [k_let, Option.bind_some, ↓reduceIte, eq_self, true_or, or_true, n01_0, n01_1, kb_or, kb_0T, kb_0F, vn_0, vn_1, vn_k, nl_0, nl_1, nl_2, nl_3, nl_4, nl_5, nl_6, nl_7, nl_8, nl_9, nl_10, nl_11, nl_12, nl_13, nl_14, nl_15, nl_16, nl_20, nl_21, nl_22, nl_23, nl_24, nl_25, nl_26, nl_27, nl_28, nl_29, nl_30, nl_31, nl_32, nl_40, nl_41, nl_42, nl_43, nl_45, nl_47, nl_48, nl_50, nl_57, nl_59, nl_60, nl_61, nl_62, nl_63, nl_64, nl_91, nl_93, nl_94, nl_97, nl_98, nl_100, nl_110, nl_122, nl_130, nl_144, nl_160, nl_240, nl_241, nl_255, nl_256, nl_400, nl_800, nl_900, nl_999, nl_1000, nl_1001, nl_1024, nl_1103, nl_1928, nl_4321, nl_5560, nl_12345, nl_1000000, nl_1000003, nl_252645135, nl_858993459, nl_1431655765, nl_1000000000, nI_add, pk_mul, n_sub, n_neg, n_cl, leT, leF, ltT, ltF, eqT, eqF, kbT, s_II, s_In, s_IJ, s_IA, s_IL, s_IR, s_IC, s_JI, s_JJ, s_Jn, s_JA, s_JL, s_JR, s_JC, s_AI, s_AJ, s_AA, s_An, s_AL, s_AR, s_AC, s_LI, s_LJ, s_LA, s_LL, s_Ln, s_LR, s_LC, kB_f]
      · have : smB (t i) = true := by rw [sm_iff]; omega
        rw [decide_eq_true ⟨c, this⟩]
        simp (disch := omega) only [k_let, Option.bind_some, ↓reduceIte, eq_self, true_or, or_true, n01_0, n01_1, kb_or, kb_0T, kb_0F, vn_0, vn_1, vn_k, nl_0, nl_1, nl_2, nl_3, nl_4, nl_5, nl_6, nl_7, nl_8, nl_9, nl_10, nl_11, nl_12, nl_13, nl_14, nl_15, nl_16, nl_20, nl_21, nl_22, nl_23, nl_24, nl_25, nl_26, nl_27, nl_28, nl_29, nl_30, nl_31, nl_32, nl_40, nl_41, nl_42, nl_43, nl_45, nl_47, nl_48, nl_50, nl_57, nl_59, nl_60, nl_61, nl_62, nl_63, nl_64, nl_91, nl_93, nl_94, nl_97, nl_98, nl_100, nl_110, nl_122, nl_130, nl_144, nl_160, nl_240, nl_241, nl_255, nl_256, nl_400, nl_800, nl_900, nl_999, nl_1000, nl_1001, nl_1024, nl_1103, nl_1928, nl_4321, nl_5560, nl_12345, nl_1000000, nl_1000003, nl_252645135, nl_858993459, nl_1431655765, nl_1000000000, nI_add, pk_mul, n_sub, n_neg, n_cl, leT, leF, ltT, ltF, eqT, eqF, kbT, s_II, s_In, s_IJ, s_IA, s_IL, s_IR, s_IC, s_JI, s_JJ, s_Jn, s_JA, s_JL, s_JR, s_JC, s_AI, s_AJ, s_AA, s_An, s_AL, s_AR, s_AC, s_LI, s_LJ, s_LA, s_LL, s_Ln, s_LR, s_LC, kB_t]
  · rw [if_neg c]
    rw [decide_eq_false (fun h => c h.1)]
    simp (disch := omega) only [k_let, Option.bind_some, ↓reduceIte, eq_self, true_or, or_true, n01_0, n01_1, kb_or, kb_0T, kb_0F, vn_0, vn_1, vn_k, nl_0, nl_1, nl_2, nl_3, nl_4, nl_5, nl_6, nl_7, nl_8, nl_9, nl_10, nl_11, nl_12, nl_13, nl_14, nl_15, nl_16, nl_20, nl_21, nl_22, nl_23, nl_24, nl_25, nl_26, nl_27, nl_28, nl_29, nl_30, nl_31, nl_32, nl_40, nl_41, nl_42, nl_43, nl_45, nl_47, nl_48, nl_50, nl_57, nl_59, nl_60, nl_61, nl_62, nl_63, nl_64, nl_91, nl_93, nl_94, nl_97, nl_98, nl_100, nl_110, nl_122, nl_130, nl_144, nl_160, nl_240, nl_241, nl_255, nl_256, nl_400, nl_800, nl_900, nl_999, nl_1000, nl_1001, nl_1024, nl_1103, nl_1928, nl_4321, nl_5560, nl_12345, nl_1000000, nl_1000003, nl_252645135, nl_858993459, nl_1431655765, nl_1000000000, nI_add, pk_mul, n_sub, n_neg, n_cl, leT, leF, ltT, ltF, eqT, eqF, kbT, s_II, s_In, s_IJ, s_IA, s_IL, s_IR, s_IC, s_JI, s_JJ, s_Jn, s_JA, s_JL, s_JR, s_JC, s_AI, s_AJ, s_AA, s_An, s_AL, s_AR, s_AC, s_LI, s_LJ, s_LA, s_LL, s_Ln, s_LR, s_LC, zleT, zleF, zltT, zltF, zeqT, zeqF, nzleT, nzleF, nzltT, nzltF, nzeqT, nzeqF, znleT, znleF, znltT, znltF, zneqT, zneqF, z_add, z_sub, z_mul, z_neg, z_an, z_na, z_sn, z_ns, z_mn, z_nm, kB_f]
theorem e_isDigit {t : Nat → Nat} {n : Nat} {S : St} (h : Bt t n S) {i : Nat} (hi : i < 2147483648) : f_X7_isDigit (nI i) S = some (kB (decide (i < n ∧ dgB (t i) = true)), S) := by
  unfold f_X7_isDigit f_X7_isDigit_25 f_X7_isDigit_26
  rw [e_byteAt h hi]
  by_cases c : i < n
  · obtain ⟨a1, a2⟩ := h.2.2 i c
    rw [if_pos c]
    by_cases c1 : t i < 48
    · have : ¬ dgB (t i) = true := by rw [dg_iff]; omega
      rw [decide_eq_false (fun h => this h.2)]
      simp (disch := omega) only [k_let, Option.bind_some, ↓reduceIte, eq_self, true_or, or_true, n01_0, n01_1, kb_or, kb_0T, kb_0F, vn_0, vn_1, vn_k, nl_0, nl_1, nl_2, nl_3, nl_4, nl_5, nl_6, nl_7, nl_8, nl_9, nl_10, nl_11, nl_12, nl_13, nl_14, nl_15, nl_16, nl_20, nl_21, nl_22, nl_23, nl_24, nl_25, nl_26, nl_27, nl_28, nl_29, nl_30, nl_31, nl_32, nl_40, nl_41, nl_42, nl_43, nl_45, nl_47, nl_48, nl_50, nl_57, nl_59, nl_60, nl_61, nl_62, nl_63, nl_64, nl_91, nl_93, nl_94, nl_97, nl_98, nl_100, nl_110, nl_122, nl_130, nl_144, nl_160, nl_240, nl_241, nl_255, nl_256, nl_400, nl_800, nl_900, nl_999, nl_1000, nl_1001, nl_1024, nl_1103, nl_1928, nl_4321, nl_5560, nl_12345, nl_1000000, nl_1000003, nl_252645135, nl_858993459, nl_1431655765, nl_1000000000, nI_add, pk_mul, n_sub, n_neg, n_cl, leT, leF, ltT, ltF, eqT, eqF, kbT, s_II, s_In, s_IJ, s_IA, s_IL, s_IR, s_IC, s_JI, s_JJ, s_Jn, s_JA, s_JL, s_JR, s_JC, s_AI, s_AJ, s_AA, s_An, s_AL, s_AR, s_AC, s_LI, s_LJ, s_LA, s_LL, s_Ln, s_LR, s_LC, kB_f]
    · by_cases c2 : 57 < t i
      · have : ¬ dgB (t i) = true := by rw [dg_iff]; omega
        rw [decide_eq_false (fun h => this h.2)]
        simp (disch := omega) only [k_let, Option.bind_some, ↓reduceIte, eq_self, true_or, or_true, n01_0, n01_1, kb_or, kb_0T, kb_0F, vn_0, vn_1, vn_k, nl_0, nl_1, nl_2, nl_3, nl_4, nl_5, nl_6, nl_7, nl_8, nl_9, nl_10, nl_11, nl_12, nl_13, nl_14, nl_15, nl_16, nl_20, nl_21, nl_22, nl_23, nl_24, nl_25, nl_26, nl_27, nl_28, nl_29, nl_30, nl_31, nl_32, nl_40, nl_41, nl_42, nl_43, nl_45, nl_47, nl_48, nl_50, nl_57, nl_59, nl_60, nl_61, nl_62, nl_63, nl_64, nl_91, nl_93, nl_94, nl_97, nl_98, nl_100, nl_110, nl_122, nl_130, nl_144, nl_160, nl_240, nl_241, nl_255, nl_256, nl_400, nl_800, nl_900, nl_999, nl_1000, nl_1001, nl_1024, nl_1103, nl_1928, nl_4321, nl_5560, nl_12345, nl_1000000, nl_1000003, nl_252645135, nl_858993459, nl_1431655765, nl_1000000000, nI_add, pk_mul, n_sub, n_neg, n_cl, leT, leF, ltT, ltF, eqT, eqF, kbT, s_II, s_In, s_IJ, s_IA, s_IL, s_IR, s_IC, s_JI, s_JJ, s_Jn, s_JA, s_JL, s_JR, s_JC, s_AI, s_AJ, s_AA, s_An, s_AL, s_AR, s_AC, s_LI, s_LJ, s_LA, s_LL, s_Ln, s_LR, s_LC, kB_f]
      · have : dgB (t i) = true := by rw [dg_iff]; omega
        rw [decide_eq_true ⟨c, this⟩]
        simp (disch := omega) only [k_let, Option.bind_some, ↓reduceIte, eq_self, true_or, or_true, n01_0, n01_1, kb_or, kb_0T, kb_0F, vn_0, vn_1, vn_k, nl_0, nl_1, nl_2, nl_3, nl_4, nl_5, nl_6, nl_7, nl_8, nl_9, nl_10, nl_11, nl_12, nl_13, nl_14, nl_15, nl_16, nl_20, nl_21, nl_22, nl_23, nl_24, nl_25, nl_26, nl_27, nl_28, nl_29, nl_30, nl_31, nl_32, nl_40, nl_41, nl_42, nl_43, nl_45, nl_47, nl_48, nl_50, nl_57, nl_59, nl_60, nl_61, nl_62, nl_63, nl_64, nl_91, nl_93, nl_94, nl_97, nl_98, nl_100, nl_110, nl_122, nl_130, nl_144, nl_160, nl_240, nl_241, nl_255, nl_256, nl_400, nl_800, nl_900, nl_999, nl_1000, nl_1001, nl_1024, nl_1103, nl_1928, nl_4321, nl_5560, nl_12345, nl_1000000, nl_1000003, nl_252645135, nl_858993459, nl_1431655765, nl_1000000000, nI_add, pk_mul, n_sub, n_neg, n_cl, leT, leF, ltT, ltF, eqT, eqF, kbT, s_II, s_In, s_IJ, s_IA, s_IL, s_IR, s_IC, s_JI, s_JJ, s_Jn, s_JA, s_JL, s_JR, s_JC, s_AI, s_AJ, s_AA, s_An, s_AL, s_AR, s_AC, s_LI, s_LJ, s_LA, s_LL, s_Ln, s_LR, s_LC, kB_t]
  · rw [if_neg c]
    rw [decide_eq_false (fun h => c h.1)]
    simp (disch := omega) only [k_let, Option.bind_some, ↓reduceIte, eq_self, true_or, or_true, n01_0, n01_1, kb_or, kb_0T, kb_0F, vn_0, vn_1, vn_k, nl_0, nl_1, nl_2, nl_3, nl_4, nl_5, nl_6, nl_7, nl_8, nl_9, nl_10, nl_11, nl_12, nl_13, nl_14, nl_15, nl_16, nl_20, nl_21, nl_22, nl_23, nl_24, nl_25, nl_26, nl_27, nl_28, nl_29, nl_30, nl_31, nl_32, nl_40, nl_41, nl_42, nl_43, nl_45, nl_47, nl_48, nl_50, nl_57, nl_59, nl_60, nl_61, nl_62, nl_63, nl_64, nl_91, nl_93, nl_94, nl_97, nl_98, nl_100, nl_110, nl_122, nl_130, nl_144, nl_160, nl_240, nl_241, nl_255, nl_256, nl_400, nl_800, nl_900, nl_999, nl_1000, nl_1001, nl_1024, nl_1103, nl_1928, nl_4321, nl_5560, nl_12345, nl_1000000, nl_1000003, nl_252645135, nl_858993459, nl_1431655765, nl_1000000000, nI_add, pk_mul, n_sub, n_neg, n_cl, leT, leF, ltT, ltF, eqT, eqF, kbT, s_II, s_In, s_IJ, s_IA, s_IL, s_IR, s_IC, s_JI, s_JJ, s_Jn, s_JA, s_JL, s_JR, s_JC, s_AI, s_AJ, s_AA, s_An, s_AL, s_AR, s_AC, s_LI, s_LJ, s_LA, s_LL, s_Ln, s_LR, s_LC, zleT, zleF, zltT, zltF, zeqT, zeqF, nzleT, nzleF, nzltT, nzltF, nzeqT, nzeqF, znleT, znleF, znltT, znltF, zneqT, zneqF, z_add, z_sub, z_mul, z_neg, z_an, z_na, z_sn, z_ns, z_mn, z_nm, kB_f]
theorem l_skip {t : Nat → Nat} {n : Nat} : ∀ (m f a : Nat) (S : St), a ≤ n → n - a = m → m < f → Bt t n S → gI S 15 = nI a → ∃ T, f_X7_step_8 f S = f_X7_step_47 T ∧ Fr [15] [] [] [] S T ∧ gI T 15 = nI (sk t m a) := by
  intro m
  induction m with
  | zero =>
    intro f a S ha hm hf hb h15
    have hn := hb.1
    obtain ⟨f, rfl⟩ : ∃ k, f = k + 1 := ⟨f - 1, by omega⟩
    refine ⟨S, ?_, Fr.refl S, h15⟩
    rw [f_X7_step_8]
    rw [h15]
    by_cases c : 400 ≤ a
    · simp (disch := omega) only [k_let, Option.bind_some, ↓reduceIte, eq_self, true_or, or_true, n01_0, n01_1, kb_or, kb_0T, kb_0F, vn_0, vn_1, vn_k, nl_0, nl_1, nl_2, nl_3, nl_4, nl_5, nl_6, nl_7, nl_8, nl_9, nl_10, nl_11, nl_12, nl_13, nl_14, nl_15, nl_16, nl_20, nl_21, nl_22, nl_23, nl_24, nl_25, nl_26, nl_27, nl_28, nl_29, nl_30, nl_31, nl_32, nl_40, nl_41, nl_42, nl_43, nl_45, nl_47, nl_48, nl_50, nl_57, nl_59, nl_60, nl_61, nl_62, nl_63, nl_64, nl_91, nl_93, nl_94, nl_97, nl_98, nl_100, nl_110, nl_122, nl_130, nl_144, nl_160, nl_240, nl_241, nl_255, nl_256, nl_400, nl_800, nl_900, nl_999, nl_1000, nl_1001, nl_1024, nl_1103, nl_1928, nl_4321, nl_5560, nl_12345, nl_1000000, nl_1000003, nl_252645135, nl_858993459, nl_1431655765, nl_1000000000, nI_add, pk_mul, n_sub, n_neg, n_cl, leT, leF, ltT, ltF, eqT, eqF, kbT, s_II, s_In, s_IJ, s_IA, s_IL, s_IR, s_IC, s_JI, s_JJ, s_Jn, s_JA, s_JL, s_JR, s_JC, s_AI, s_AJ, s_AA, s_An, s_AL, s_AR, s_AC, s_LI, s_LJ, s_LA, s_LL, s_Ln, s_LR, s_LC]
    · rw [e_byteF hb (by omega) (by omega)]
      simp (disch := omega) only [k_let, Option.bind_some, ↓reduceIte, eq_self, true_or, or_true, n01_0, n01_1, kb_or, kb_0T, kb_0F, vn_0, vn_1, vn_k, nl_0, nl_1, nl_2, nl_3, nl_4, nl_5, nl_6, nl_7, nl_8, nl_9, nl_10, nl_11, nl_12, nl_13, nl_14, nl_15, nl_16, nl_20, nl_21, nl_22, nl_23, nl_24, nl_25, nl_26, nl_27, nl_28, nl_29, nl_30, nl_31, nl_32, nl_40, nl_41, nl_42, nl_43, nl_45, nl_47, nl_48, nl_50, nl_57, nl_59, nl_60, nl_61, nl_62, nl_63, nl_64, nl_91, nl_93, nl_94, nl_97, nl_98, nl_100, nl_110, nl_122, nl_130, nl_144, nl_160, nl_240, nl_241, nl_255, nl_256, nl_400, nl_800, nl_900, nl_999, nl_1000, nl_1001, nl_1024, nl_1103, nl_1928, nl_4321, nl_5560, nl_12345, nl_1000000, nl_1000003, nl_252645135, nl_858993459, nl_1431655765, nl_1000000000, nI_add, pk_mul, n_sub, n_neg, n_cl, leT, leF, ltT, ltF, eqT, eqF, kbT, s_II, s_In, s_IJ, s_IA, s_IL, s_IR, s_IC, s_JI, s_JJ, s_Jn, s_JA, s_JL, s_JR, s_JC, s_AI, s_AJ, s_AA, s_An, s_AL, s_AR, s_AC, s_LI, s_LJ, s_LA, s_LL, s_Ln, s_LR, s_LC, zleT, zleF, zltT, zltF, zeqT, zeqF, nzleT, nzleF, nzltT, nzltF, nzeqT, nzeqF, znleT, znleF, znltT, znltF, zneqT, zneqF, z_add, z_sub, z_mul, z_neg, z_an, z_na, z_sn, z_ns, z_mn, z_nm]
  | succ m ih =>
    intro f a S ha hm hf hb h15
    have hn := hb.1
    obtain ⟨f, rfl⟩ : ∃ k, f = k + 1 := ⟨f - 1, by omega⟩
    obtain ⟨a1, a2⟩ := hb.2.2 a (by omega)
    rw [f_X7_step_8]
    rw [h15, e_byteT hb (by omega)]
    by_cases c : t a = 32
    · have fr : Fr [15] [] [] [] S (sI S 15 (nI (a + 1))) := (Fr.refl S).sI rfl _
      obtain ⟨T, e1, e2, e3⟩ := ih f (a + 1) (sI S 15 (nI (a + 1))) (by omega) (by omega) (by omega) (hb.fr fr rfl rfl) (s_II _ _ _)
      refine ⟨T, ?_, fr.trans e2, ?_⟩
      · simp (disch := omega) only [k_let, Option.bind_some, ↓reduceIte, eq_self, true_or, or_true, n01_0, n01_1, kb_or, kb_0T, kb_0F, vn_0, vn_1, vn_k, nl_0, nl_1, nl_2, nl_3, nl_4, nl_5, nl_6, nl_7, nl_8, nl_9, nl_10, nl_11, nl_12, nl_13, nl_14, nl_15, nl_16, nl_20, nl_21, nl_22, nl_23, nl_24, nl_25, nl_26, nl_27, nl_28, nl_29, nl_30, nl_31, nl_32, nl_40, nl_41, nl_42, nl_43, nl_45, nl_47, nl_48, nl_50, nl_57, nl_59, nl_60, nl_61, nl_62, nl_63, nl_64, nl_91, nl_93, nl_94, nl_97, nl_98, nl_100, nl_110, nl_122, nl_130, nl_144, nl_160, nl_240, nl_241, nl_255, nl_256, nl_400, nl_800, nl_900, nl_999, nl_1000, nl_1001, nl_1024, nl_1103, nl_1928, nl_4321, nl_5560, nl_12345, nl_1000000, nl_1000003, nl_252645135, nl_858993459, nl_1431655765, nl_1000000000, nI_add, pk_mul, n_sub, n_neg, n_cl, leT, leF, ltT, ltF, eqT, eqF, kbT, s_II, s_In, s_IJ, s_IA, s_IL, s_IR, s_IC, s_JI, s_JJ, s_Jn, s_JA, s_JL, s_JR, s_JC, s_AI, s_AJ, s_AA, s_An, s_AL, s_AR, s_AC, s_LI, s_LJ, s_LA, s_LL, s_Ln, s_LR, s_LC, h15, c]
        exact e1
      · rw [e3]
        show _ = nI (if t a = 32 then _ else _)
        rw [if_pos c]
    · refine ⟨S, ?_, Fr.refl S, ?_⟩
      · simp (disch := omega) only [k_let, Option.bind_some, ↓reduceIte, eq_self, true_or, or_true, n01_0, n01_1, kb_or, kb_0T, kb_0F, vn_0, vn_1, vn_k, nl_0, nl_1, nl_2, nl_3, nl_4, nl_5, nl_6, nl_7, nl_8, nl_9, nl_10, nl_11, nl_12, nl_13, nl_14, nl_15, nl_16, nl_20, nl_21, nl_22, nl_23, nl_24, nl_25, nl_26, nl_27, nl_28, nl_29, nl_30, nl_31, nl_32, nl_40, nl_41, nl_42, nl_43, nl_45, nl_47, nl_48, nl_50, nl_57, nl_59, nl_60, nl_61, nl_62, nl_63, nl_64, nl_91, nl_93, nl_94, nl_97, nl_98, nl_100, nl_110, nl_122, nl_130, nl_144, nl_160, nl_240, nl_241, nl_255, nl_256, nl_400, nl_800, nl_900, nl_999, nl_1000, nl_1001, nl_1024, nl_1103, nl_1928, nl_4321, nl_5560, nl_12345, nl_1000000, nl_1000003, nl_252645135, nl_858993459, nl_1431655765, nl_1000000000, nI_add, pk_mul, n_sub, n_neg, n_cl, leT, leF, ltT, ltF, eqT, eqF, kbT, s_II, s_In, s_IJ, s_IA, s_IL, s_IR, s_IC, s_JI, s_JJ, s_Jn, s_JA, s_JL, s_JR, s_JC, s_AI, s_AJ, s_AA, s_An, s_AL, s_AR, s_AC, s_LI, s_LJ, s_LA, s_LL, s_Ln, s_LR, s_LC]
      · rw [h15]
        show _ = nI (if t a = 32 then _ else _)
        rw [if_neg c]
theorem l_let {t : Nat → Nat} {n : Nat} : ∀ (m f b : Nat) (S : St), b ≤ n → n - b = m → m < f → Bt t n S → gI S 16 = nI b → ∃ T, f_X7_step_98 f S = some T ∧ Fr [16] [] [] [] S T ∧ gI T 16 = nI (rnk smB t m b) := by
  intro m
  induction m with
  | zero =>
    intro f a S ha hm hf hb h15
    have hn := hb.1
    obtain ⟨f, rfl⟩ : ∃ k, f = k + 1 := ⟨f - 1, by omega⟩
    refine ⟨S, ?_, Fr.refl S, h15⟩
    rw [f_X7_step_98]
    rw [h15]
    unfold f_X7_step_229
    by_cases c : 400 ≤ a
    · simp (disch := omega) only [k_let, Option.bind_some, ↓reduceIte, eq_self, true_or, or_true, n01_0, n01_1, kb_or, kb_0T, kb_0F, vn_0, vn_1, vn_k, nl_0, nl_1, nl_2, nl_3, nl_4, nl_5, nl_6, nl_7, nl_8, nl_9, nl_10, nl_11, nl_12, nl_13, nl_14, nl_15, nl_16, nl_20, nl_21, nl_22, nl_23, nl_24, nl_25, nl_26, nl_27, nl_28, nl_29, nl_30, nl_31, nl_32, nl_40, nl_41, nl_42, nl_43, nl_45, nl_47, nl_48, nl_50, nl_57, nl_59, nl_60, nl_61, nl_62, nl_63, nl_64, nl_91, nl_93, nl_94, nl_97, nl_98, nl_100, nl_110, nl_122, nl_130, nl_144, nl_160, nl_240, nl_241, nl_255, nl_256, nl_400, nl_800, nl_900, nl_999, nl_1000, nl_1001, nl_1024, nl_1103, nl_1928, nl_4321, nl_5560, nl_12345, nl_1000000, nl_1000003, nl_252645135, nl_858993459, nl_1431655765, nl_1000000000, nI_add, pk_mul, n_sub, n_neg, n_cl, leT, leF, ltT, ltF, eqT, eqF, kbT, s_II, s_In, s_IJ, s_IA, s_IL, s_IR, s_IC, s_JI, s_JJ, s_Jn, s_JA, s_JL, s_JR, s_JC, s_AI, s_AJ, s_AA, s_An, s_AL, s_AR, s_AC, s_LI, s_LJ, s_LA, s_LL, s_Ln, s_LR, s_LC]
    · rw [e_isLetter hb (by omega), decide_eq_false (by omega)]
      simp (disch := omega) only [k_let, Option.bind_some, ↓reduceIte, eq_self, true_or, or_true, n01_0, n01_1, kb_or, kb_0T, kb_0F, vn_0, vn_1, vn_k, nl_0, nl_1, nl_2, nl_3, nl_4, nl_5, nl_6, nl_7, nl_8, nl_9, nl_10, nl_11, nl_12, nl_13, nl_14, nl_15, nl_16, nl_20, nl_21, nl_22, nl_23, nl_24, nl_25, nl_26, nl_27, nl_28, nl_29, nl_30, nl_31, nl_32, nl_40, nl_41, nl_42, nl_43, nl_45, nl_47, nl_48, nl_50, nl_57, nl_59, nl_60, nl_61, nl_62, nl_63, nl_64, nl_91, nl_93, nl_94, nl_97, nl_98, nl_100, nl_110, nl_122, nl_130, nl_144, nl_160, nl_240, nl_241, nl_255, nl_256, nl_400, nl_800, nl_900, nl_999, nl_1000, nl_1001, nl_1024, nl_1103, nl_1928, nl_4321, nl_5560, nl_12345, nl_1000000, nl_1000003, nl_252645135, nl_858993459, nl_1431655765, nl_1000000000, nI_add, pk_mul, n_sub, n_neg, n_cl, leT, leF, ltT, ltF, eqT, eqF, kbT, s_II, s_In, s_IJ, s_IA, s_IL, s_IR, s_IC, s_JI, s_JJ, s_Jn, s_JA, s_JL, s_JR, s_JC, s_AI, s_AJ, s_AA, s_An, s_AL, s_AR, s_AC, s_LI, s_LJ, s_LA, s_LL, s_Ln, s_LR, s_LC]
  | succ m ih =>
    intro f a S ha hm hf hb h15
    have hn := hb.1
    obtain ⟨f, rfl⟩ : ∃ k, f = k + 1 := ⟨f - 1, by omega⟩
    rw [f_X7_step_98]
    rw [h15, e_isLetter hb (by omega)]
    unfold f_X7_step_229
    by_cases c : smB (t a) = true
    · have fr : Fr [16] [] [] [] S (sI S 16 (nI (a + 1))) := (Fr.refl S).sI rfl _
      obtain ⟨T, e1, e2, e3⟩ := ih f (a + 1) (sI S 16 (nI (a + 1))) (by omega) (by omega) (by omega) (hb.fr fr rfl rfl) (s_II _ _ _)
      refine ⟨T, ?_, fr.trans e2, ?_⟩
      · rw [decide_eq_true ⟨by omega, c⟩]
        simp (disch := omega) only [k_let, Option.bind_some, ↓reduceIte, eq_self, true_or, or_true, n01_0, n01_1, kb_or, kb_0T, kb_0F, vn_0, vn_1, vn_k, nl_0, nl_1, nl_2, nl_3, nl_4, nl_5, nl_6, nl_7, nl_8, nl_9, nl_10, nl_11, nl_12, nl_13, nl_14, nl_15, nl_16, nl_20, nl_21, nl_22, nl_23, nl_24, nl_25, nl_26, nl_27, nl_28, nl_29, nl_30, nl_31, nl_32, nl_40, nl_41, nl_42, nl_43, nl_45, nl_47, nl_48, nl_50, nl_57, nl_59, nl_60, nl_61, nl_62, nl_63, nl_64, nl_91, nl_93, nl_94, nl_97, nl_98, nl_100, nl_110, nl_122, nl_130, nl_144, nl_160, nl_240, nl_241, nl_255, nl_256, nl_400, nl_800, nl_900, nl_999, nl_1000, nl_1001, nl_1024, nl_1103, nl_1928, nl_4321, nl_5560, nl_12345, nl_1000000, nl_1000003, nl_252645135, nl_858993459, nl_1431655765, nl_1000000000, nI_add, pk_mul, n_sub, n_neg, n_cl, leT, leF, ltT, ltF, eqT, eqF, kbT, s_II, s_In, s_IJ, s_IA, s_IL, s_IR, s_IC, s_JI, s_JJ, s_Jn, s_JA, s_JL, s_JR, s_JC, s_AI, s_AJ, s_AA, s_An, s_AL, s_AR, s_AC, s_LI, s_LJ, s_LA, s_LL, s_Ln, s_LR, s_LC, h15]
        exact e1
      · rw [e3]
        show _ = nI (if smB (t a) = true then _ else _)
        rw [if_pos c]
    · refine ⟨S, ?_, Fr.refl S, ?_⟩
      · rw [decide_eq_false (fun h => c h.2)]
        simp (disch := omega) only [k_let, Option.bind_some, ↓reduceIte, eq_self, true_or, or_true, n01_0, n01_1, kb_or, kb_0T, kb_0F, vn_0, vn_1, vn_k, nl_0, nl_1, nl_2, nl_3, nl_4, nl_5, nl_6, nl_7, nl_8, nl_9, nl_10, nl_11, nl_12, nl_13, nl_14, nl_15, nl_16, nl_20, nl_21, nl_22, nl_23, nl_24, nl_25, nl_26, nl_27, nl_28, nl_29, nl_30, nl_31, nl_32, nl_40, nl_41, nl_42, nl_43, nl_45, nl_47, nl_48, nl_50, nl_57, nl_59, nl_60, nl_61, nl_62, nl_63, nl_64, nl_91, nl_93, nl_94, nl_97, nl_98, nl_100, nl_110, nl_122, nl_130, nl_144, nl_160, nl_240, nl_241, nl_255, nl_256, nl_400, nl_800, nl_900, nl_999, nl_1000, nl_1001, nl_1024, nl_1103, nl_1928, nl_4321, nl_5560, nl_12345, nl_1000000, nl_1000003, nl_252645135, nl_858993459, nl_1431655765, nl_1000000000, nI_add, pk_mul, n_sub, n_neg, n_cl, leT, leF, ltT, ltF, eqT, eqF, kbT, s_II, s_In, s_IJ, s_IA, s_IL, s_IR, s_IC, s_JI, s_JJ, s_Jn, s_JA, s_JL, s_JR, s_JC, s_AI, s_AJ, s_AA, s_An, s_AL, s_AR, s_AC, s_LI, s_LJ, s_LA, s_LL, s_Ln, s_LR, s_LC]
      · rw [h15]
        show _ = nI (if smB (t a) = true then _ else _)
        rw [if_neg c]
theorem l_dig {t : Nat → Nat} {n a0 : Nat} : ∀ (m f b : Nat) (S : St), a0 ≤ b → b ≤ n → n - b = m → m < f → Bt t n S → gI S 16 = nI b → gI S 14 = nI (min (vl t a0 (b - a0)) 1001) → ∃ T, f_X7_step_148 f S = some T ∧ Fr [14, 16] [] [] [] S T ∧ gI T 16 = nI (rnk dgB t m b) ∧ gI T 14 = nI (min (vl t a0 (rnk dgB t m b - a0)) 1001) := by
  intro m
  induction m with
  | zero =>
    intro f a S ha0 ha hm hf hb h15 h14
    have hn := hb.1
    obtain ⟨f, rfl⟩ : ∃ k, f = k + 1 := ⟨f - 1, by omega⟩
    refine ⟨S, ?_, Fr.refl S, h15, h14⟩
    rw [f_X7_step_148]
    rw [h15]
    unfold f_X7_step_229
    by_cases c : 400 ≤ a
    · simp (disch := omega) only [k_let, Option.bind_some, ↓reduceIte, eq_self, true_or, or_true, n01_0, n01_1, kb_or, kb_0T, kb_0F, vn_0, vn_1, vn_k, nl_0, nl_1, nl_2, nl_3, nl_4, nl_5, nl_6, nl_7, nl_8, nl_9, nl_10, nl_11, nl_12, nl_13, nl_14, nl_15, nl_16, nl_20, nl_21, nl_22, nl_23, nl_24, nl_25, nl_26, nl_27, nl_28, nl_29, nl_30, nl_31, nl_32, nl_40, nl_41, nl_42, nl_43, nl_45, nl_47, nl_48, nl_50, nl_57, nl_59, nl_60, nl_61, nl_62, nl_63, nl_64, nl_91, nl_93, nl_94, nl_97, nl_98, nl_100, nl_110, nl_122, nl_130, nl_144, nl_160, nl_240, nl_241, nl_255, nl_256, nl_400, nl_800, nl_900, nl_999, nl_1000, nl_1001, nl_1024, nl_1103, nl_1928, nl_4321, nl_5560, nl_12345, nl_1000000, nl_1000003, nl_252645135, nl_858993459, nl_1431655765, nl_1000000000, nI_add, pk_mul, n_sub, n_neg, n_cl, leT, leF, ltT, ltF, eqT, eqF, kbT, s_II, s_In, s_IJ, s_IA, s_IL, s_IR, s_IC, s_JI, s_JJ, s_Jn, s_JA, s_JL, s_JR, s_JC, s_AI, s_AJ, s_AA, s_An, s_AL, s_AR, s_AC, s_LI, s_LJ, s_LA, s_LL, s_Ln, s_LR, s_LC]
    · rw [e_isDigit hb (by omega), decide_eq_false (by omega)]
      simp (disch := omega) only [k_let, Option.bind_some, ↓reduceIte, eq_self, true_or, or_true, n01_0, n01_1, kb_or, kb_0T, kb_0F, vn_0, vn_1, vn_k, nl_0, nl_1, nl_2, nl_3, nl_4, nl_5, nl_6, nl_7, nl_8, nl_9, nl_10, nl_11, nl_12, nl_13, nl_14, nl_15, nl_16, nl_20, nl_21, nl_22, nl_23, nl_24, nl_25, nl_26, nl_27, nl_28, nl_29, nl_30, nl_31, nl_32, nl_40, nl_41, nl_42, nl_43, nl_45, nl_47, nl_48, nl_50, nl_57, nl_59, nl_60, nl_61, nl_62, nl_63, nl_64, nl_91, nl_93, nl_94, nl_97, nl_98, nl_100, nl_110, nl_122, nl_130, nl_144, nl_160, nl_240, nl_241, nl_255, nl_256, nl_400, nl_800, nl_900, nl_999, nl_1000, nl_1001, nl_1024, nl_1103, nl_1928, nl_4321, nl_5560, nl_12345, nl_1000000, nl_1000003, nl_252645135, nl_858993459, nl_1431655765, nl_1000000000, nI_add, pk_mul, n_sub, n_neg, n_cl, leT, leF, ltT, ltF, eqT, eqF, kbT, s_II, s_In, s_IJ, s_IA, s_IL, s_IR, s_IC, s_JI, s_JJ, s_Jn, s_JA, s_JL, s_JR, s_JC, s_AI, s_AJ, s_AA, s_An, s_AL, s_AR, s_AC, s_LI, s_LJ, s_LA, s_LL, s_Ln, s_LR, s_LC]
  | succ m ih =>
    intro f a S ha0 ha hm hf hb h15 h14
    have hn := hb.1
    obtain ⟨f, rfl⟩ : ∃ k, f = k + 1 := ⟨f - 1, by omega⟩
    rw [f_X7_step_148]
    rw [h15, e_isDigit hb (by omega)]
    unfold f_X7_step_229
    by_cases c : dgB (t a) = true
    · have c' := c
      rw [dg_iff] at c'
      have ev : vl t a0 (a + 1 - a0) = vl t a0 (a - a0) * 10 + (t a - 48) := by
        rw [show a + 1 - a0 = (a - a0) + 1 by omega]
        show _ * 10 + (t (a0 + (a - a0)) - 48) = _
        rw [show a0 + (a - a0) = a by omega]
      have fr : Fr [14, 16] [] [] [] S (sI (sI S 14 (nI (min (vl t a0 (a + 1 - a0)) 1001))) 16 (nI (a + 1))) := ((Fr.refl S).sI rfl _).sI rfl _
      obtain ⟨T, e1, e2, e3, e4⟩ := ih f (a + 1) (sI (sI S 14 (nI (min (vl t a0 (a + 1 - a0)) 1001))) 16 (nI (a + 1))) (by omega) (by omega) (by omega) (by omega) (hb.fr fr rfl rfl) (s_II _ _ _) ((s_In (by decide)).trans (s_II _ _ _))
      have er : rnk dgB t (m + 1) a = rnk dgB t m (a + 1) := if_pos c
      refine ⟨T, ?_, fr.trans e2, ?_, ?_⟩
      · rw [decide_eq_true ⟨by omega, c⟩]
        simp (disch := omega) only [k_let, Option.bind_some, ↓reduceIte, eq_self, true_or, or_true, n01_0, n01_1, kb_or, kb_0T, kb_0F, vn_0, vn_1, vn_k, nl_0, nl_1, nl_2, nl_3, nl_4, nl_5, nl_6, nl_7, nl_8, nl_9, nl_10, nl_11, nl_12, nl_13, nl_14, nl_15, nl_16, nl_20, nl_21, nl_22, nl_23, nl_24, nl_25, nl_26, nl_27, nl_28, nl_29, nl_30, nl_31, nl_32, nl_40, nl_41, nl_42, nl_43, nl_45, nl_47, nl_48, nl_50, nl_57, nl_59, nl_60, nl_61, nl_62, nl_63, nl_64, nl_91, nl_93, nl_94, nl_97, nl_98, nl_100, nl_110, nl_122, nl_130, nl_144, nl_160, nl_240, nl_241, nl_255, nl_256, nl_400, nl_800, nl_900, nl_999, nl_1000, nl_1001, nl_1024, nl_1103, nl_1928, nl_4321, nl_5560, nl_12345, nl_1000000, nl_1000003, nl_252645135, nl_858993459, nl_1431655765, nl_1000000000, nI_add, pk_mul, n_sub, n_neg, n_cl, leT, leF, ltT, ltF, eqT, eqF, kbT, s_II, s_In, s_IJ, s_IA, s_IL, s_IR, s_IC, s_JI, s_JJ, s_Jn, s_JA, s_JL, s_JR, s_JC, s_AI, s_AJ, s_AA, s_An, s_AL, s_AR, s_AC, s_LI, s_LJ, s_LA, s_LL, s_Ln, s_LR, s_LC, h15]
        rw [e_byteT hb (by omega)]
        simp (disch := omega) only [k_let, Option.bind_some, ↓reduceIte, eq_self, true_or, or_true, n01_0, n01_1, kb_or, kb_0T, kb_0F, vn_0, vn_1, vn_k, nl_0, nl_1, nl_2, nl_3, nl_4, nl_5, nl_6, nl_7, nl_8, nl_9, nl_10, nl_11, nl_12, nl_13, nl_14, nl_15, nl_16, nl_20, nl_21, nl_22, nl_23, nl_24, nl_25, nl_26, nl_27, nl_28, nl_29, nl_30, nl_31, nl_32, nl_40, nl_41, nl_42, nl_43, nl_45, nl_47, nl_48, nl_50, nl_57, nl_59, nl_60, nl_61, nl_62, nl_63, nl_64, nl_91, nl_93, nl_94, nl_97, nl_98, nl_100, nl_110, nl_122, nl_130, nl_144, nl_160, nl_240, nl_241, nl_255, nl_256, nl_400, nl_800, nl_900, nl_999, nl_1000, nl_1001, nl_1024, nl_1103, nl_1928, nl_4321, nl_5560, nl_12345, nl_1000000, nl_1000003, nl_252645135, nl_858993459, nl_1431655765, nl_1000000000, nI_add, pk_mul, n_sub, n_neg, n_cl, leT, leF, ltT, ltF, eqT, eqF, kbT, s_II, s_In, s_IJ, s_IA, s_IL, s_IR, s_IC, s_JI, s_JJ, s_Jn, s_JA, s_JL, s_JR, s_JC, s_AI, s_AJ, s_AA, s_An, s_AL, s_AR, s_AC, s_LI, s_LJ, s_LA, s_LL, s_Ln, s_LR, s_LC, h15, h14]
        have en : min (vl t a0 (a + 1 - a0)) 1001 = if 1001 < (min (vl t a0 (a - a0)) 1001) * 10 + t a - 48 then 1001 else (min (vl t a0 (a - a0)) 1001) * 10 + t a - 48 := by
          rw [ev]
          generalize vl t a0 (a - a0) = v
          by_cases q : 1001 < (min v 1001) * 10 + t a - 48
          · rw [if_pos q]; omega
          · rw [if_neg q]; omega
        have e5 : (if nI 1001 < nI ((min (vl t a0 (a - a0)) 1001) * 10 + t a - 48) then nI 1001 else nI ((min (vl t a0 (a - a0)) 1001) * 10 + t a - 48)) = nI (min (vl t a0 (a + 1 - a0)) 1001) := by
          rw [en]
          by_cases q : 1001 < (min (vl t a0 (a - a0)) 1001) * 10 + t a - 48
          · rw [if_pos q, if_pos (by rw [n_lt (by omega) (by omega)]; exact q)]
          · rw [if_neg q, if_neg (by rw [n_lt (by omega) (by omega)]; exact q)]
        rw [e5]
        exact e1
      · rw [e3, er]
      · rw [e4, er]
    · have er : rnk dgB t (m + 1) a = a := if_neg c
      refine ⟨S, ?_, Fr.refl S, ?_, ?_⟩
      · rw [decide_eq_false (fun h => c h.2)]
        simp (disch := omega) only [k_let, Option.bind_some, ↓reduceIte, eq_self, true_or, or_true, n01_0, n01_1, kb_or, kb_0T, kb_0F, vn_0, vn_1, vn_k, nl_0, nl_1, nl_2, nl_3, nl_4, nl_5, nl_6, nl_7, nl_8, nl_9, nl_10, nl_11, nl_12, nl_13, nl_14, nl_15, nl_16, nl_20, nl_21, nl_22, nl_23, nl_24, nl_25, nl_26, nl_27, nl_28, nl_29, nl_30, nl_31, nl_32, nl_40, nl_41, nl_42, nl_43, nl_45, nl_47, nl_48, nl_50, nl_57, nl_59, nl_60, nl_61, nl_62, nl_63, nl_64, nl_91, nl_93, nl_94, nl_97, nl_98, nl_100, nl_110, nl_122, nl_130, nl_144, nl_160, nl_240, nl_241, nl_255, nl_256, nl_400, nl_800, nl_900, nl_999, nl_1000, nl_1001, nl_1024, nl_1103, nl_1928, nl_4321, nl_5560, nl_12345, nl_1000000, nl_1000003, nl_252645135, nl_858993459, nl_1431655765, nl_1000000000, nI_add, pk_mul, n_sub, n_neg, n_cl, leT, leF, ltT, ltF, eqT, eqF, kbT, s_II, s_In, s_IJ, s_IA, s_IL, s_IR, s_IC, s_JI, s_JJ, s_Jn, s_JA, s_JL, s_JR, s_JC, s_AI, s_AJ, s_AA, s_An, s_AL, s_AR, s_AC, s_LI, s_LJ, s_LA, s_LL, s_Ln, s_LR, s_LC]
      · rw [h15, er]
      · rw [h14, er]
/-- the class's reader stands at the token that begins at a -/
def Ctk (t : Nat → Nat) (n a : Nat) (S : St) : Prop := Bt t n S ∧ a ≤ n ∧ gI S 15 = nI a ∧ gI S 16 = nI (en t n a) ∧ gI S 13 = nI (kd t n a) ∧ (kd t n a = 2 → gI S 14 = nI (min (vl t a (en t n a - a)) 1001))
theorem Ctk.fr {t : Nat → Nat} {n a : Nat} {S T : St} {ci cj ca cl : List Nat} (h : Ctk t n a S) (f : Fr ci cj ca cl S T) (h0 : ci.contains 8 = false) (h1 : ci.contains 13 = false) (h2 : ci.contains 14 = false) (h3 : ci.contains 15 = false) (h4 : ci.contains 16 = false) (h5 : ca.contains 16 = false) : Ctk t n a T :=
  ⟨h.1.fr f h0 h5, h.2.1, (f.I h3).trans h.2.2.1, (f.I h4).trans h.2.2.2.1, (f.I h1).trans h.2.2.2.2.1, fun k => (f.I h2).trans (h.2.2.2.2.2 k)⟩
theorem e_step {t : Nat → Nat} {n p : Nat} {S : St} (hb : Bt t n S) (hp : p ≤ n) (h16 : gI S 16 = nI p) : ∃ T, f_X7_step S = some T ∧ Fr [13, 14, 15, 16] [] [] [] S T ∧ Ctk t n (sk t (n - p) p) T := by
  have hn := hb.1
  have F1 : 1000 < FU := FU_ge (by decide)
  obtain ⟨T, e1, e2, e3⟩ := l_skip (n - p) FU p (sI S 15 (nI p)) hp rfl (by omega) (hb.fr ((Fr.refl S : Fr [15] [] [] [] S S).sI rfl _) rfl rfl) (s_II _ _ _)
  have hsk := sk_le t (n - p) p
  generalize ha : sk t (n - p) p = a at e3 hsk ⊢
  have fT : Fr [15] [] [] [] S T := ((Fr.refl S).sI rfl _).trans e2
  have bT : Bt t n T := hb.fr fT rfl rfl
  have e0 : f_X7_step S = f_X7_step_47 T := by
    unfold f_X7_step
    rw [h16]
    exact e1
  rw [e0]
  unfold f_X7_step_47 f_X7_step_229
  have f2 : Fr [14, 16] [] [] [] T (sI (sI T 16 (nI a)) 14 (nI 0)) := ((Fr.refl T).sI rfl _).sI rfl _
  generalize hU : sI (sI T 16 (nI a)) 14 (nI 0) = U at f2
  have u15 : gI U 15 = nI a := (f2.I rfl).trans e3
  have u16 : gI U 16 = nI a := by rw [← hU]; exact (s_In (by decide)).trans (s_II _ _ _)
  have u14 : gI U 14 = nI 0 := by rw [← hU]; exact s_II _ _ _
  have bU : Bt t n U := bT.fr f2 rfl rfl
  have fU : Fr [13, 14, 15, 16] [] [] [] S U := (fT.mono rfl rfl rfl rfl).trans (f2.mono rfl rfl rfl rfl)
  by_cases c : a < n
  · simp (disch := omega) only [k_let, Option.bind_some, ↓reduceIte, eq_self, true_or, or_true, n01_0, n01_1, kb_or, kb_0T, kb_0F, vn_0, vn_1, vn_k, nl_0, nl_1, nl_2, nl_3, nl_4, nl_5, nl_6, nl_7, nl_8, nl_9, nl_10, nl_11, nl_12, nl_13, nl_14, nl_15, nl_16, nl_20, nl_21, nl_22, nl_23, nl_24, nl_25, nl_26, nl_27, nl_28, nl_29, nl_30, nl_31, nl_32, nl_40, nl_41, nl_42, nl_43, nl_45, nl_47, nl_48, nl_50, nl_57, nl_59, nl_60, nl_61, nl_62, nl_63, nl_64, nl_91, nl_93, nl_94, nl_97, nl_98, nl_100, nl_110, nl_122, nl_130, nl_144, nl_160, nl_240, nl_241, nl_255, nl_256, nl_400, nl_800, nl_900, nl_999, nl_1000, nl_1001, nl_1024, nl_1103, nl_1928, nl_4321, nl_5560, nl_12345, nl_1000000, nl_1000003, nl_252645135, nl_858993459, nl_1431655765, nl_1000000000, nI_add, pk_mul, n_sub, n_neg, n_cl, leT, leF, ltT, ltF, eqT, eqF, kbT, s_II, s_In, s_IJ, s_IA, s_IL, s_IR, s_IC, s_JI, s_JJ, s_Jn, s_JA, s_JL, s_JR, s_JC, s_AI, s_AJ, s_AA, s_An, s_AL, s_AR, s_AC, s_LI, s_LJ, s_LA, s_LL, s_Ln, s_LR, s_LC, e3, bT.2.1]
    rw [hU, e_isLetter bU (by omega)]
    by_cases c1 : smB (t a) = true
    · rw [decide_eq_true ⟨c, c1⟩]
      simp (disch := omega) only [k_let, Option.bind_some, ↓reduceIte, eq_self, true_or, or_true, n01_0, n01_1, kb_or, kb_0T, kb_0F, vn_0, vn_1, vn_k, nl_0, nl_1, nl_2, nl_3, nl_4, nl_5, nl_6, nl_7, nl_8, nl_9, nl_10, nl_11, nl_12, nl_13, nl_14, nl_15, nl_16, nl_20, nl_21, nl_22, nl_23, nl_24, nl_25, nl_26, nl_27, nl_28, nl_29, nl_30, nl_31, nl_32, nl_40, nl_41, nl_42, nl_43, nl_45, nl_47, nl_48, nl_50, nl_57, nl_59, nl_60, nl_61, nl_62, nl_63, nl_64, nl_91, nl_93, nl_94, nl_97, nl_98, nl_100, nl_110, nl_122, nl_130, nl_144, nl_160, nl_240, nl_241, nl_255, nl_256, nl_400, nl_800, nl_900, nl_999, nl_1000, nl_1001, nl_1024, nl_1103, nl_1928, nl_4321, nl_5560, nl_12345, nl_1000000, nl_1000003, nl_252645135, nl_858993459, nl_1431655765, nl_1000000000, nI_add, pk_mul, n_sub, n_neg, n_cl, leT, leF, ltT, ltF, eqT, eqF, kbT, s_II, s_In, s_IJ, s_IA, s_IL, s_IR, s_IC, s_JI, s_JJ, s_Jn, s_JA, s_JL, s_JR, s_JC, s_AI, s_AJ, s_AA, s_An, s_AL, s_AR, s_AC, s_LI, s_LJ, s_LA, s_LL, s_Ln, s_LR, s_LC]
      have fV : Fr [13] [] [] [] U (sI U 13 (nI 1)) := (Fr.refl U).sI rfl _
      obtain ⟨V, g1, g2, g3⟩ := l_let (n - a) FU a (sI U 13 (nI 1)) (by omega) rfl (by omega) (bU.fr fV rfl rfl) ((fV.I rfl).trans u16)
      have hk : kd t n a = 1 := by unfold kd; rw [if_neg (by omega), if_pos c1]
      have he : en t n a = rnk smB t (n - a) a := by unfold en; rw [if_neg (by omega), if_pos c1]
      refine ⟨V, g1, fU.trans ((fV.mono rfl rfl rfl rfl).trans (g2.mono rfl rfl rfl rfl)), (bU.fr fV rfl rfl).fr g2 rfl rfl, by omega, ?_, ?_, ?_, fun q => ?_⟩
      · rw [g2.I rfl, fV.I rfl, u15]
      · rw [he]; exact g3
      · rw [g2.I rfl, hk]; exact s_II _ _ _
      · rw [hk] at q; cases q
    · rw [decide_eq_false (fun h => c1 h.2)]
      simp (disch := omega) only [k_let, Option.bind_some, ↓reduceIte, eq_self, true_or, or_true, n01_0, n01_1, kb_or, kb_0T, kb_0F, vn_0, vn_1, vn_k, nl_0, nl_1, nl_2, nl_3, nl_4, nl_5, nl_6, nl_7, nl_8, nl_9, nl_10, nl_11, nl_12, nl_13, nl_14, nl_15, nl_16, nl_20, nl_21, nl_22, nl_23, nl_24, nl_25, nl_26, nl_27, nl_28, nl_29, nl_30, nl_31, nl_32, nl_40, nl_41, nl_42, nl_43, nl_45, nl_47, nl_48, nl_50, nl_57, nl_59, nl_60, nl_61, nl_62, nl_63, nl_64, nl_91, nl_93, nl_94, nl_97, nl_98, nl_100, nl_110, nl_122, nl_130, nl_144, nl_160, nl_240, nl_241, nl_255, nl_256, nl_400, nl_800, nl_900, nl_999, nl_1000, nl_1001, nl_1024, nl_1103, nl_1928, nl_4321, nl_5560, nl_12345, nl_1000000, nl_1000003, nl_252645135, nl_858993459, nl_1431655765, nl_1000000000, nI_add, pk_mul, n_sub, n_neg, n_cl, leT, leF, ltT, ltF, eqT, eqF, kbT, s_II, s_In, s_IJ, s_IA, s_IL, s_IR, s_IC, s_JI, s_JJ, s_Jn, s_JA, s_JL, s_JR, s_JC, s_AI, s_AJ, s_AA, s_An, s_AL, s_AR, s_AC, s_LI, s_LJ, s_LA, s_LL, s_Ln, s_LR, s_LC]
      rw [u16, e_isDigit bU (by omega)]
      by_cases c2 : dgB (t a) = true
      · rw [decide_eq_true ⟨c, c2⟩]
        simp (disch := omega) only [k_let, Option.bind_some, ↓reduceIte, eq_self, true_or, or_true, n01_0, n01_1, kb_or, kb_0T, kb_0F, vn_0, vn_1, vn_k, nl_0, nl_1, nl_2, nl_3, nl_4, nl_5, nl_6, nl_7, nl_8, nl_9, nl_10, nl_11, nl_12, nl_13, nl_14, nl_15, nl_16, nl_20, nl_21, nl_22, nl_23, nl_24, nl_25, nl_26, nl_27, nl_28, nl_29, nl_30, nl_31, nl_32, nl_40, nl_41, nl_42, nl_43, nl_45, nl_47, nl_48, nl_50, nl_57, nl_59, nl_60, nl_61, nl_62, nl_63, nl_64, nl_91, nl_93, nl_94, nl_97, nl_98, nl_100, nl_110, nl_122, nl_130, nl_144, nl_160, nl_240, nl_241, nl_255, nl_256, nl_400, nl_800, nl_900, nl_999, nl_1000, nl_1001, nl_1024, nl_1103, nl_1928, nl_4321, nl_5560, nl_12345, nl_1000000, nl_1000003, nl_252645135, nl_858993459, nl_1431655765, nl_1000000000, nI_add, pk_mul, n_sub, n_neg, n_cl, leT, leF, ltT, ltF, eqT, eqF, kbT, s_II, s_In, s_IJ, s_IA, s_IL, s_IR, s_IC, s_JI, s_JJ, s_Jn, s_JA, s_JL, s_JR, s_JC, s_AI, s_AJ, s_AA, s_An, s_AL, s_AR, s_AC, s_LI, s_LJ, s_LA, s_LL, s_Ln, s_LR, s_LC]
        have fV : Fr [13] [] [] [] U (sI U 13 (nI 2)) := (Fr.refl U).sI rfl _
        obtain ⟨V, g1, g2, g3, g4⟩ := l_dig (a0 := a) (n - a) FU a (sI U 13 (nI 2)) (Nat.le_refl a) (by omega) rfl (by omega) (bU.fr fV rfl rfl) ((fV.I rfl).trans u16) (by rw [fV.I rfl, u14, Nat.sub_self]; rfl)
        have hk : kd t n a = 2 := by unfold kd; rw [if_neg (by omega), if_neg c1, if_pos c2]
        have he : en t n a = rnk dgB t (n - a) a := by unfold en; rw [if_neg (by omega), if_neg c1, if_pos c2]
        refine ⟨V, g1, fU.trans ((fV.mono rfl rfl rfl rfl).trans (g2.mono rfl rfl rfl rfl)), (bU.fr fV rfl rfl).fr g2 rfl rfl, by omega, ?_, ?_, ?_, fun q => ?_⟩
        · rw [g2.I rfl, fV.I rfl, u15]
        · rw [he]; exact g3
        · rw [g2.I rfl, hk]; exact s_II _ _ _
        · rw [he]; exact g4
      · rw [decide_eq_false (fun h => c2 h.2)]
        simp (disch := omega) only [k_let, Option.bind_some, ↓reduceIte, eq_self, true_or, or_true, n01_0, n01_1, kb_or, kb_0T, kb_0F, vn_0, vn_1, vn_k, nl_0, nl_1, nl_2, nl_3, nl_4, nl_5, nl_6, nl_7, nl_8, nl_9, nl_10, nl_11, nl_12, nl_13, nl_14, nl_15, nl_16, nl_20, nl_21, nl_22, nl_23, nl_24, nl_25, nl_26, nl_27, nl_28, nl_29, nl_30, nl_31, nl_32, nl_40, nl_41, nl_42, nl_43, nl_45, nl_47, nl_48, nl_50, nl_57, nl_59, nl_60, nl_61, nl_62, nl_63, nl_64, nl_91, nl_93, nl_94, nl_97, nl_98, nl_100, nl_110, nl_122, nl_130, nl_144, nl_160, nl_240, nl_241, nl_255, nl_256, nl_400, nl_800, nl_900, nl_999, nl_1000, nl_1001, nl_1024, nl_1103, nl_1928, nl_4321, nl_5560, nl_12345, nl_1000000, nl_1000003, nl_252645135, nl_858993459, nl_1431655765, nl_1000000000, nI_add, pk_mul, n_sub, n_neg, n_cl, leT, leF, ltT, ltF, eqT, eqF, kbT, s_II, s_In, s_IJ, s_IA, s_IL, s_IR, s_IC, s_JI, s_JJ, s_Jn, s_JA, s_JL, s_JR, s_JC, s_AI, s_AJ, s_AA, s_An, s_AL, s_AR, s_AC, s_LI, s_LJ, s_LA, s_LL, s_Ln, s_LR, s_LC, u16]
        have hk : kd t n a = 3 := by unfold kd; rw [if_neg (by omega), if_neg c1, if_neg c2]
        have he : en t n a = a + 1 := by unfold en; rw [if_neg (by omega), if_neg c1, if_neg c2]
        have fV : Fr [13, 16] [] [] [] U (sI (sI U 13 (nI 3)) 16 (nI (a + 1))) := ((Fr.refl U).sI rfl _).sI rfl _
        refine ⟨_, rfl, fU.trans (fV.mono rfl rfl rfl rfl), bU.fr fV rfl rfl, by omega, ?_, ?_, ?_, fun q => ?_⟩
        · rw [fV.I rfl, u15]
        · rw [he]; exact s_II _ _ _
        · rw [hk]; exact (s_In (by decide)).trans (s_II _ _ _)
        · rw [hk] at q; cases q
  · simp (disch := omega) only [k_let, Option.bind_some, ↓reduceIte, eq_self, true_or, or_true, n01_0, n01_1, kb_or, kb_0T, kb_0F, vn_0, vn_1, vn_k, nl_0, nl_1, nl_2, nl_3, nl_4, nl_5, nl_6, nl_7, nl_8, nl_9, nl_10, nl_11, nl_12, nl_13, nl_14, nl_15, nl_16, nl_20, nl_21, nl_22, nl_23, nl_24, nl_25, nl_26, nl_27, nl_28, nl_29, nl_30, nl_31, nl_32, nl_40, nl_41, nl_42, nl_43, nl_45, nl_47, nl_48, nl_50, nl_57, nl_59, nl_60, nl_61, nl_62, nl_63, nl_64, nl_91, nl_93, nl_94, nl_97, nl_98, nl_100, nl_110, nl_122, nl_130, nl_144, nl_160, nl_240, nl_241, nl_255, nl_256, nl_400, nl_800, nl_900, nl_999, nl_1000, nl_1001, nl_1024, nl_1103, nl_1928, nl_4321, nl_5560, nl_12345, nl_1000000, nl_1000003, nl_252645135, nl_858993459, nl_1431655765, nl_1000000000, nI_add, pk_mul, n_sub, n_neg, n_cl, leT, leF, ltT, ltF, eqT, eqF, kbT, s_II, s_In, s_IJ, s_IA, s_IL, s_IR, s_IC, s_JI, s_JJ, s_Jn, s_JA, s_JL, s_JR, s_JC, s_AI, s_AJ, s_AA, s_An, s_AL, s_AR, s_AC, s_LI, s_LJ, s_LA, s_LL, s_Ln, s_LR, s_LC, e3, bT.2.1]
    rw [hU]
    have hk : kd t n a = 0 := by unfold kd; rw [if_pos (by omega)]
    have he : en t n a = a := by unfold en; rw [if_pos (by omega)]
    have fV : Fr [13] [] [] [] U (sI U 13 (nI 0)) := (Fr.refl U).sI rfl _
    refine ⟨_, rfl, fU.trans (fV.mono rfl rfl rfl rfl), bU.fr fV rfl rfl, by omega, ?_, ?_, ?_, fun q => ?_⟩
    · rw [fV.I rfl, u15]
    · rw [he, fV.I rfl, u16]
    · rw [hk]; exact s_II _ _ _
    · rw [hk] at q; cases q
/-- from a token on to the next -/
theorem Ctk.step {t : Nat → Nat} {n a : Nat} {S : St} (h : Ctk t n a S) : ∃ T, f_X7_step S = some T ∧ Fr [13, 14, 15, 16] [] [] [] S T ∧ Ctk t n (tnx t n a) T :=
  e_step h.1 (en_le h.2.1).2 h.2.2.2.1
