/-! part d2: the reference's reader of tokens -/
def ew : List Nat → Int
  | [] => 0
  | x :: r => ew r * 32 + (x : Int) - 96
def wW (t : Nat → Nat) (a k : Nat) : Int := if k ≤ 10 then ew (rl t a k) else -1
def nvL : List Int := [24627848, 67155, 23569555, 14836, 1476, 498, 515250, 122578850290, 677317, 408362632, 269899955, 1253, 4360851, 294]
theorem ew_lo {l : List Nat} (h : ∀ x, x ∈ l → 97 ≤ x ∧ x ≤ 122) : 0 ≤ ew l ∧ ew l < 32 ^ l.length ∧ (l ≠ [] → 0 < ew l) := by
  induction l with
  | nil => exact ⟨Int.le_refl _, by decide, fun q => absurd rfl q⟩
  | cons x r ih =>
    obtain ⟨a1, a2, -⟩ := ih (fun y hy => h y (List.mem_cons_of_mem _ hy))
    have hx := h x List.mem_cons_self
    have e : (32 : Int) ^ (r.length + 1) = 32 ^ r.length * 32 := Int.pow_succ 32 r.length
    show 0 ≤ ew r * 32 + (x : Int) - 96 ∧ ew r * 32 + (x : Int) - 96 < 32 ^ (r.length + 1) ∧ _
    rw [e]
    generalize (32 : Int) ^ r.length = p at a2
    refine ⟨by omega, by omega, fun _ => ?_⟩
    show 0 < ew r * 32 + (x : Int) - 96
    omega
theorem ew_inj : ∀ {l m : List Nat}, (∀ x, x ∈ l → 97 ≤ x ∧ x ≤ 122) → (∀ x, x ∈ m → 97 ≤ x ∧ x ≤ 122) → ew l = ew m → l = m := by
  intro l
  induction l with
  | nil =>
    intro m _ h2 e
    cases m with
    | nil => rfl
    | cons y s =>
      have := (ew_lo h2).2.2 (by simp)
      have e : (0 : Int) = ew (y :: s) := e
      omega
  | cons x r ih =>
    intro m h1 h2 e
    cases m with
    | nil =>
      have := (ew_lo h1).2.2 (by simp)
      have e : ew (x :: r) = (0 : Int) := e
      omega
    | cons y s =>
      have hx := h1 x List.mem_cons_self
      have hy := h2 y List.mem_cons_self
      have e : ew r * 32 + (x : Int) - 96 = ew s * 32 + (y : Int) - 96 := e
      have e1 : ew r = ew s := by omega
      have e2 : x = y := by omega
      rw [e2, ih (fun z hz => h1 z (List.mem_cons_of_mem _ hz)) (fun z hz => h2 z (List.mem_cons_of_mem _ hz)) e1]
theorem rl_len (t : Nat → Nat) (a : Nat) : ∀ k, (rl t a k).length = k := by
  intro k
  induction k with
  | zero => rfl
  | succ k ih => show (rl t a k).length + 1 = k + 1; rw [ih]
theorem rl_mem {t : Nat → Nat} {a : Nat} : ∀ {k x}, x ∈ rl t a k → ∃ j, j < k ∧ x = t (a + j) := by
  intro k
  induction k with
  | zero => intro x h; cases h
  | succ k ih =>
    intro x h
    rcases List.mem_cons.mp h with h | h
    · exact ⟨k, by omega, h⟩
    · obtain ⟨j, a1, a2⟩ := ih h
      exact ⟨j, by omega, a2⟩
theorem rl_app (t : Nat → Nat) (a : Nat) : ∀ k, rl t a (k + 1) = rl t (a + 1) k ++ [t a] := by
  intro k
  induction k with
  | zero => rfl
  | succ k ih =>
    show t (a + (k + 1)) :: rl t a (k + 1) = (t (a + 1 + k) :: rl t (a + 1) k) ++ [t a]
    rw [ih, show a + (k + 1) = a + 1 + k by omega]
    rfl
theorem wmt_rl (t : Nat → Nat) (a : Nat) : ∀ (w : List Nat) (j : Nat), (wmt t a w j = true) ↔ rl t (a + j) w.length = w.reverse := by
  intro w
  induction w with
  | nil => intro j; exact ⟨fun _ => rfl, fun _ => rfl⟩
  | cons x r ih =>
    intro j
    have e0 : rl t (a + j) (x :: r).length = rl t (a + (j + 1)) r.length ++ [t (a + j)] := rl_app t (a + j) r.length
    rw [e0, List.reverse_cons]
    show ((if t (a + j) = x then wmt t a r (j + 1) else false) = true) ↔ _
    by_cases c : t (a + j) = x
    · rw [if_pos c, ih (j + 1), c]
      exact ⟨fun h => by rw [h], fun h => List.append_cancel_right h⟩
    · rw [if_neg c]
      refine ⟨fun h => (by cases h), fun h => ?_⟩
      have := congrArg List.getLast? h
      rw [List.getLast?_append, List.getLast?_append] at this
      simp at this
      exact absurd this c
theorem ew_iff {t : Nat → Nat} {n a i : Nat} (hi : i < 14) (hk : kd t n a = 1) (he : ∀ j, a ≤ j → j < en t n a → 97 ≤ t j ∧ t j ≤ 122) (ha : a ≤ en t n a) : (wW t a (en t n a - a) = nvL.getD i 0) = (isW t n a i = true) := by
  have w1 : ∀ i, i < 14 → nvL.getD i 0 = ew (wl.getD i []).reverse ∧ 0 < nvL.getD i 0 ∧ (wl.getD i []).length ≤ 10 ∧ ∀ x, x ∈ (wl.getD i []).reverse → 97 ≤ x ∧ x ≤ 122 := by decide +kernel
  obtain ⟨b1, b2, b3, b4⟩ := w1 i hi
  have hm : ∀ x, x ∈ rl t a (en t n a - a) → 97 ≤ x ∧ x ≤ 122 := fun x hx => by
    obtain ⟨j, c1, c2⟩ := rl_mem hx
    rw [c2]
    exact he _ (by omega) (by omega)
  have key : (isW t n a i = true) = (en t n a - a = (wl.getD i []).length ∧ rl t a (en t n a - a) = (wl.getD i []).reverse) := by
    unfold isW
    rw [Bool.and_eq_true, decide_eq_true_eq, wmt_rl, Nat.add_zero]
    apply propext
    constructor
    · rintro ⟨⟨-, c1⟩, c2⟩
      exact ⟨c1, by rw [c1]; exact c2⟩
    · rintro ⟨c1, c2⟩
      exact ⟨⟨hk, c1⟩, by rw [← c1]; exact c2⟩
  rw [key]
  apply propext
  unfold wW
  constructor
  · intro h
    by_cases c : en t n a - a ≤ 10
    · rw [if_pos c, b1] at h
      have := ew_inj hm b4 h
      refine ⟨?_, this⟩
      have := congrArg List.length this
      rw [rl_len, List.length_reverse] at this
      exact this
    · rw [if_neg c] at h
      omega
  · rintro ⟨c1, c2⟩
    rw [if_pos (by omega), c2, b1]
/-- a text on the reference's tape -/
def Mb (t : Nat → Nat) (n : Nat) (S : St) : Prop := n ≤ 400 ∧ gI S 36 = nI n ∧ ∀ i, i < n → (gA S 56 i = nI (t i) ∧ t i < 256)
theorem Mb.fr {t : Nat → Nat} {n : Nat} {S T : St} {ci cj ca cl : List Nat} (h : Mb t n S) (f : Fr ci cj ca cl S T) (h1 : ci.contains 36 = false) (h2 : ca.contains 56 = false) : Mb t n T := by
  refine ⟨h.1, (f.I h1).trans h.2.1, fun i hi => ?_⟩
  rw [f.A h2]
  exact h.2.2 i hi
theorem e_small {c : Nat} (hc : c < 256) (S : St) : f_X12_isSmall (nI c) S = some (kB (smB c), S) := by
  unfold f_X12_isSmall f_X12_isSmall_16 f_X12_isSmall_17 smB
  by_cases c1 : c < 97
  · rw [decide_eq_false (by omega)]; simp (disch := omega) only [k_let, Option.bind_some, ↓reduceIte, eq_self, true_or, or_true, n01_0, n01_1, kb_or, kb_0T, kb_0F, vn_0, vn_1, vn_k, nl_0, nl_1, nl_2, nl_3, nl_4, nl_5, nl_6, nl_7, nl_8, nl_9, nl_10, nl_11, nl_12, nl_13, nl_14, nl_15, nl_16, nl_20, nl_21, nl_22, nl_23, nl_24, nl_25, nl_26, nl_27, nl_28, nl_29, nl_30, nl_31, nl_32, nl_40, nl_41, nl_42, nl_43, nl_45, nl_47, nl_48, nl_50, nl_57, nl_59, nl_60, nl_61, nl_62, nl_63, nl_64, nl_91, nl_93, nl_94, nl_97, nl_98, nl_100, nl_110, nl_122, nl_130, nl_144, nl_160, nl_240, nl_241, nl_255, nl_256, nl_400, nl_800, nl_900, nl_999, nl_1000, nl_1001, nl_1024, nl_1103, nl_1928, nl_4321, nl_5560, nl_12345, nl_1000000, nl_1000003, nl_252645135, nl_858993459, nl_1431655765, nl_1000000000, nI_add, pk_mul, n_sub, n_neg, n_cl, leT, leF, ltT, ltF, eqT, eqF, kbT, s_II, s_In, s_IJ, s_IA, s_IL, s_IR, s_IC, s_JI, s_JJ, s_Jn, s_JA, s_JL, s_JR, s_JC, s_AI, s_AJ, s_AA, s_An, s_AL, s_AR, s_AC, s_LI, s_LJ, s_LA, s_LL, s_Ln, s_LR, s_LC, kB_f]
  · by_cases c2 : 122 < c
    · rw [decide_eq_false (by omega)]; simp (disch := omega) only [k_let, Option.bind_some, ↓reduceIte, eq_self, true_or, or_true, n01_0, n01_1, kb_or, kb_0T, kb_0F, vn_0, vn_1, vn_k, nl_0, nl_1, nl_2, nl_3, nl_4, nl_5, nl_6, nl_7, nl_8, nl_9, nl_10, nl_11, nl_12, nl_13, nl_14, nl_15, nl_16, nl_20, nl_21, nl_22, nl_23, nl_24, nl_25, nl_26, nl_27, nl_28, nl_29, nl_30, nl_31, nl_32, nl_40, nl_41, nl_42, nl_43, nl_45, nl_47, nl_48, nl_50, nl_57, nl_59, nl_60, nl_61, nl_62, nl_63, nl_64, nl_91, nl_93, nl_94, nl_97, nl_98, nl_100, nl_110, nl_122, nl_130, nl_144, nl_160, nl_240, nl_241, nl_255, nl_256, nl_400, nl_800, nl_900, nl_999, nl_1000, nl_1001, nl_1024, nl_1103, nl_1928, nl_4321, nl_5560, nl_12345, nl_1000000, nl_1000003, nl_252645135, nl_858993459, nl_1431655765, nl_1000000000, nI_add, pk_mul, n_sub, n_neg, n_cl, leT, leF, ltT, ltF, eqT, eqF, kbT, s_II, s_In, s_IJ, s_IA, s_IL, s_IR, s_IC, s_JI, s_JJ, s_Jn, s_JA, s_JL, s_JR, s_JC, s_AI, s_AJ, s_AA, s_An, s_AL, s_AR, s_AC, s_LI, s_LJ, s_LA, s_LL, s_Ln, s_LR, s_LC, kB_f]
    · rw [decide_eq_true (by omega)]; simp (disch := omega) only [k_let, Option.bind_some, ↓reduceIte, eq_self, true_or, or_true, n01_0, n01_1, kb_or, kb_0T, kb_0F, vn_0, vn_1, vn_k, nl_0, nl_1, nl_2, nl_3, nl_4, nl_5, nl_6, nl_7, nl_8, nl_9, nl_10, nl_11, nl_12, nl_13, nl_14, nl_15, nl_16, nl_20, nl_21, nl_22, nl_23, nl_24, nl_25, nl_26, nl_27, nl_28, nl_29, nl_30, nl_31, nl_32, nl_40, nl_41, nl_42, nl_43, nl_45, nl_47, nl_48, nl_50, nl_57, nl_59, nl_60, nl_61, nl_62, nl_63, nl_64, nl_91, nl_93, nl_94, nl_97, nl_98, nl_100, nl_110, nl_122, nl_130, nl_144, nl_160, nl_240, nl_241, nl_255, nl_256, nl_400, nl_800, nl_900, nl_999, nl_1000, nl_1001, nl_1024, nl_1103, nl_1928, nl_4321, nl_5560, nl_12345, nl_1000000, nl_1000003, nl_252645135, nl_858993459, nl_1431655765, nl_1000000000, nI_add, pk_mul, n_sub, n_neg, n_cl, leT, leF, ltT, ltF, eqT, eqF, kbT, s_II, s_In, s_IJ, s_IA, s_IL, s_IR, s_IC, s_JI, s_JJ, s_Jn, s_JA, s_JL, s_JR, s_JC, s_AI, s_AJ, s_AA, s_An, s_AL, s_AR, s_AC, s_LI, s_LJ, s_LA, s_LL, s_Ln, s_LR, s_LC, kB_t]
theorem e_digit {c : Nat} (hc : c < 256) (S : St) : f_X12_isDigit (nI c) S = some (kB (dgB c), S) := by
  unfold f_X12_isDigit f_X12_isDigit_16 f_X12_isDigit_17 dgB
  by_cases c1 : c < 48
  · rw [decide_eq_false (by omega)]; simp (disch := omega) only [k_let, Option.bind_some, ↓reduceIte, eq_self, true_or, or_true, n01_0, n01_1, kb_or, kb_0T, kb_0F, vn_0, vn_1, vn_k, nl_0, nl_1, nl_2, nl_3, nl_4, nl_5, nl_6, nl_7, nl_8, nl_9, nl_10, nl_11, nl_12, nl_13, nl_14, nl_15, nl_16, nl_20, nl_21, nl_22, nl_23, nl_24, nl_25, nl_26, nl_27, nl_28, nl_29, nl_30, nl_31, nl_32, nl_40, nl_41, nl_42, nl_43, nl_45, nl_47, nl_48, nl_50, nl_57, nl_59, nl_60, nl_61, nl_62, nl_63, nl_64, nl_91, nl_93, nl_94, nl_97, nl_98, nl_100, nl_110, nl_122, nl_130, nl_144, nl_160, nl_240, nl_241, nl_255, nl_256, nl_400, nl_800, nl_900, nl_999, nl_1000, nl_1001, nl_1024, nl_1103, nl_1928, nl_4321, nl_5560, nl_12345, nl_1000000, nl_1000003, nl_252645135, nl_858993459, nl_1431655765, nl_1000000000, nI_add, pk_mul, n_sub, n_neg, n_cl, leT, leF, ltT, ltF, eqT, eqF, kbT, s_II, s_In, s_IJ, s_IA, s_IL, s_IR, s_IC, s_JI, s_JJ, s_Jn, s_JA, s_JL, s_JR, s_JC, s_AI, s_AJ, s_AA, s_An, s_AL, s_AR, s_AC, s_LI, s_LJ, s_LA, s_LL, s_Ln, s_LR, s_LC, kB_f]
  · by_cases c2 : 57 < c
    · rw [decide_eq_false (by omega)]; simp (disch := omega) only [k_let, Option.bind_some, ↓reduceIte, eq_self, true_or, or_true, n01_0, n01_1, kb_or, kb_0T, kb_0F, vn_0, vn_1, vn_k, nl_0, nl_1, nl_2, nl_3, nl_4, nl_5, nl_6, nl_7, nl_8, nl_9, nl_10, nl_11, nl_12, nl_13, nl_14, nl_15, nl_16, nl_20, nl_21, nl_22, nl_23, nl_24, nl_25, nl_26, nl_27, nl_28, nl_29, nl_30, nl_31, nl_32, nl_40, nl_41, nl_42, nl_43, nl_45, nl_47, nl_48, nl_50, nl_57, nl_59, nl_60, nl_61, nl_62, nl_63, nl_64, nl_91, nl_93, nl_94, nl_97, nl_98, nl_100, nl_110, nl_122, nl_130, nl_144, nl_160, nl_240, nl_241, nl_255, nl_256, nl_400, nl_800, nl_900, nl_999, nl_1000, nl_1001, nl_1024, nl_1103, nl_1928, nl_4321, nl_5560, nl_12345, nl_1000000, nl_1000003, nl_252645135, nl_858993459, nl_1431655765, nl_1000000000, nI_add, pk_mul, n_sub, n_neg, n_cl, leT, leF, ltT, ltF, eqT, eqF, kbT, s_II, s_In, s_IJ, s_IA, s_IL, s_IR, s_IC, s_JI, s_JJ, s_Jn, s_JA, s_JL, s_JR, s_JC, s_AI, s_AJ, s_AA, s_An, s_AL, s_AR, s_AC, s_LI, s_LJ, s_LA, s_LL, s_Ln, s_LR, s_LC, kB_f]
    · rw [decide_eq_true (by omega)]; simp (disch := omega) only [k_let, Option.bind_some, ↓reduceIte, eq_self, true_or, or_true, n01_0, n01_1, kb_or, kb_0T, kb_0F, vn_0, vn_1, vn_k, nl_0, nl_1, nl_2, nl_3, nl_4, nl_5, nl_6, nl_7, nl_8, nl_9, nl_10, nl_11, nl_12, nl_13, nl_14, nl_15, nl_16, nl_20, nl_21, nl_22, nl_23, nl_24, nl_25, nl_26, nl_27, nl_28, nl_29, nl_30, nl_31, nl_32, nl_40, nl_41, nl_42, nl_43, nl_45, nl_47, nl_48, nl_50, nl_57, nl_59, nl_60, nl_61, nl_62, nl_63, nl_64, nl_91, nl_93, nl_94, nl_97, nl_98, nl_100, nl_110, nl_122, nl_130, nl_144, nl_160, nl_240, nl_241, nl_255, nl_256, nl_400, nl_800, nl_900, nl_999, nl_1000, nl_1001, nl_1024, nl_1103, nl_1928, nl_4321, nl_5560, nl_12345, nl_1000000, nl_1000003, nl_252645135, nl_858993459, nl_1431655765, nl_1000000000, nI_add, pk_mul, n_sub, n_neg, n_cl, leT, leF, ltT, ltF, eqT, eqF, kbT, s_II, s_In, s_IJ, s_IA, s_IL, s_IR, s_IC, s_JI, s_JJ, s_Jn, s_JA, s_JL, s_JR, s_JC, s_AI, s_AJ, s_AA, s_An, s_AL, s_AR, s_AC, s_LI, s_LJ, s_LA, s_LL, s_Ln, s_LR, s_LC, kB_t]
def nuP (V : Nat) (w : Int) : Prop := (V ≤ 1000 → w = V) ∧ (1000 < V → 1000 < w) ∧ 0 ≤ w ∧ w ≤ 10000009
theorem l_mskip {t : Nat → Nat} {n : Nat} : ∀ (m f a : Nat) (S : St), a ≤ n → n - a = m → m < f → Mb t n S → gI S 37 = nI a → ∃ T, f_X12_next_8 f S = f_X12_next_46 T ∧ Fr [37] [] [] [] S T ∧ gI T 37 = nI (sk t m a) := by
  intro m
  induction m with
  | zero =>
    intro f a S ha hm hf hb h15
    have hn := hb.1
    obtain ⟨f, rfl⟩ : ∃ k, f = k + 1 := ⟨f - 1, by omega⟩
    refine ⟨S, ?_, Fr.refl S, h15⟩
    rw [f_X12_next_8]
    rw [h15, hb.2.1, if_pos (by rw [n_le (by omega) (by omega)]; omega)]
  | succ m ih =>
    intro f a S ha hm hf hb h15
    have hn := hb.1
    obtain ⟨f, rfl⟩ : ∃ k, f = k + 1 := ⟨f - 1, by omega⟩
    obtain ⟨a1, a2⟩ := hb.2.2 a (by omega)
    rw [f_X12_next_8]
    by_cases c : t a = 32
    · have fr : Fr [37] [] [] [] S (sI S 37 (nI (a + 1))) := (Fr.refl S).sI rfl _
      obtain ⟨T, e1, e2, e3⟩ := ih f (a + 1) (sI S 37 (nI (a + 1))) (by omega) (by omega) (by omega) (hb.fr fr rfl rfl) (s_II _ _ _)
      refine ⟨T, ?_, fr.trans e2, ?_⟩
      · simp (disch := omega) only [k_let, Option.bind_some, ↓reduceIte, eq_self, true_or, or_true, n01_0, n01_1, kb_or, kb_0T, kb_0F, vn_0, vn_1, vn_k, nl_0, nl_1, nl_2, nl_3, nl_4, nl_5, nl_6, nl_7, nl_8, nl_9, nl_10, nl_11, nl_12, nl_13, nl_14, nl_15, nl_16, nl_20, nl_21, nl_22, nl_23, nl_24, nl_25, nl_26, nl_27, nl_28, nl_29, nl_30, nl_31, nl_32, nl_40, nl_41, nl_42, nl_43, nl_45, nl_47, nl_48, nl_50, nl_57, nl_59, nl_60, nl_61, nl_62, nl_63, nl_64, nl_91, nl_93, nl_94, nl_97, nl_98, nl_100, nl_110, nl_122, nl_130, nl_144, nl_160, nl_240, nl_241, nl_255, nl_256, nl_400, nl_800, nl_900, nl_999, nl_1000, nl_1001, nl_1024, nl_1103, nl_1928, nl_4321, nl_5560, nl_12345, nl_1000000, nl_1000003, nl_252645135, nl_858993459, nl_1431655765, nl_1000000000, nI_add, pk_mul, n_sub, n_neg, n_cl, leT, leF, ltT, ltF, eqT, eqF, kbT, s_II, s_In, s_IJ, s_IA, s_IL, s_IR, s_IC, s_JI, s_JJ, s_Jn, s_JA, s_JL, s_JR, s_JC, s_AI, s_AJ, s_AA, s_An, s_AL, s_AR, s_AC, s_LI, s_LJ, s_LA, s_LL, s_Ln, s_LR, s_LC, h15, hb.2.1, a1]
        exact e1
      · rw [e3]
        show _ = nI (if t a = 32 then _ else _)
        rw [if_pos c]
    · refine ⟨S, ?_, Fr.refl S, ?_⟩
      · simp (disch := omega) only [k_let, Option.bind_some, ↓reduceIte, eq_self, true_or, or_true, n01_0, n01_1, kb_or, kb_0T, kb_0F, vn_0, vn_1, vn_k, nl_0, nl_1, nl_2, nl_3, nl_4, nl_5, nl_6, nl_7, nl_8, nl_9, nl_10, nl_11, nl_12, nl_13, nl_14, nl_15, nl_16, nl_20, nl_21, nl_22, nl_23, nl_24, nl_25, nl_26, nl_27, nl_28, nl_29, nl_30, nl_31, nl_32, nl_40, nl_41, nl_42, nl_43, nl_45, nl_47, nl_48, nl_50, nl_57, nl_59, nl_60, nl_61, nl_62, nl_63, nl_64, nl_91, nl_93, nl_94, nl_97, nl_98, nl_100, nl_110, nl_122, nl_130, nl_144, nl_160, nl_240, nl_241, nl_255, nl_256, nl_400, nl_800, nl_900, nl_999, nl_1000, nl_1001, nl_1024, nl_1103, nl_1928, nl_4321, nl_5560, nl_12345, nl_1000000, nl_1000003, nl_252645135, nl_858993459, nl_1431655765, nl_1000000000, nI_add, pk_mul, n_sub, n_neg, n_cl, leT, leF, ltT, ltF, eqT, eqF, kbT, s_II, s_In, s_IJ, s_IA, s_IL, s_IR, s_IC, s_JI, s_JJ, s_Jn, s_JA, s_JL, s_JR, s_JC, s_AI, s_AJ, s_AA, s_An, s_AL, s_AR, s_AC, s_LI, s_LJ, s_LA, s_LL, s_Ln, s_LR, s_LC, h15, hb.2.1, a1]
      · rw [h15]
        show _ = nI (if t a = 32 then _ else _)
        rw [if_neg c]
theorem l_mlet {t : Nat → Nat} {n a : Nat} : ∀ (m f b : Nat) (S : St), a ≤ b → b ≤ n → n - b = m → m < f → Mb t n S → gI S 37 = nI a → gI S 38 = nI b → gI S 39 = nI 1 → gJ S 0 = lZ (wW t a (b - a)) → ∃ T, f_X12_next_149 f S = f_X12_next_243 FU T ∧ Fr [38] [0] [] [] S T ∧ gI T 38 = nI (rnk smB t m b) ∧ gJ T 0 = lZ (wW t a (rnk smB t m b - a)) := by
  intro m
  induction m with
  | zero =>
    intro f b S hab ha hm hf hb h37 h15 h39 h0
    have hn := hb.1
    obtain ⟨f, rfl⟩ : ∃ k, f = k + 1 := ⟨f - 1, by omega⟩
    refine ⟨S, ?_, Fr.refl S, h15, h0⟩
    rw [f_X12_next_149]
    simp (disch := omega) only [k_let, Option.bind_some, ↓reduceIte, eq_self, true_or, or_true, n01_0, n01_1, kb_or, kb_0T, kb_0F, vn_0, vn_1, vn_k, nl_0, nl_1, nl_2, nl_3, nl_4, nl_5, nl_6, nl_7, nl_8, nl_9, nl_10, nl_11, nl_12, nl_13, nl_14, nl_15, nl_16, nl_20, nl_21, nl_22, nl_23, nl_24, nl_25, nl_26, nl_27, nl_28, nl_29, nl_30, nl_31, nl_32, nl_40, nl_41, nl_42, nl_43, nl_45, nl_47, nl_48, nl_50, nl_57, nl_59, nl_60, nl_61, nl_62, nl_63, nl_64, nl_91, nl_93, nl_94, nl_97, nl_98, nl_100, nl_110, nl_122, nl_130, nl_144, nl_160, nl_240, nl_241, nl_255, nl_256, nl_400, nl_800, nl_900, nl_999, nl_1000, nl_1001, nl_1024, nl_1103, nl_1928, nl_4321, nl_5560, nl_12345, nl_1000000, nl_1000003, nl_252645135, nl_858993459, nl_1431655765, nl_1000000000, nI_add, pk_mul, n_sub, n_neg, n_cl, leT, leF, ltT, ltF, eqT, eqF, kbT, s_II, s_In, s_IJ, s_IA, s_IL, s_IR, s_IC, s_JI, s_JJ, s_Jn, s_JA, s_JL, s_JR, s_JC, s_AI, s_AJ, s_AA, s_An, s_AL, s_AR, s_AC, s_LI, s_LJ, s_LA, s_LL, s_Ln, s_LR, s_LC, h15, h39, hb.2.1]
  | succ m ih =>
    intro f b S hab ha hm hf hb h37 h15 h39 h0
    have hn := hb.1
    obtain ⟨f, rfl⟩ : ∃ k, f = k + 1 := ⟨f - 1, by omega⟩
    obtain ⟨a1, a2⟩ := hb.2.2 b (by omega)
    rw [f_X12_next_149]
    unfold f_X12_next_227
    simp (disch := omega) only [k_let, Option.bind_some, ↓reduceIte, eq_self, true_or, or_true, n01_0, n01_1, kb_or, kb_0T, kb_0F, vn_0, vn_1, vn_k, nl_0, nl_1, nl_2, nl_3, nl_4, nl_5, nl_6, nl_7, nl_8, nl_9, nl_10, nl_11, nl_12, nl_13, nl_14, nl_15, nl_16, nl_20, nl_21, nl_22, nl_23, nl_24, nl_25, nl_26, nl_27, nl_28, nl_29, nl_30, nl_31, nl_32, nl_40, nl_41, nl_42, nl_43, nl_45, nl_47, nl_48, nl_50, nl_57, nl_59, nl_60, nl_61, nl_62, nl_63, nl_64, nl_91, nl_93, nl_94, nl_97, nl_98, nl_100, nl_110, nl_122, nl_130, nl_144, nl_160, nl_240, nl_241, nl_255, nl_256, nl_400, nl_800, nl_900, nl_999, nl_1000, nl_1001, nl_1024, nl_1103, nl_1928, nl_4321, nl_5560, nl_12345, nl_1000000, nl_1000003, nl_252645135, nl_858993459, nl_1431655765, nl_1000000000, nI_add, pk_mul, n_sub, n_neg, n_cl, leT, leF, ltT, ltF, eqT, eqF, kbT, s_II, s_In, s_IJ, s_IA, s_IL, s_IR, s_IC, s_JI, s_JJ, s_Jn, s_JA, s_JL, s_JR, s_JC, s_AI, s_AJ, s_AA, s_An, s_AL, s_AR, s_AC, s_LI, s_LJ, s_LA, s_LL, s_Ln, s_LR, s_LC, h15, h39, hb.2.1, a1]
    rw [e_small a2]
    by_cases c : smB (t b) = true
    · have er : rnk smB t (m + 1) b = rnk smB t m (b + 1) := if_pos c
      have ev : wW t a (b + 1 - a) = if 10 ≤ b - a then -1 else wW t a (b - a) * 32 + (t b : Int) - 96 := by
        rw [show b + 1 - a = (b - a) + 1 by omega]
        unfold wW
        by_cases q : 10 ≤ b - a
        · rw [if_pos q, if_neg (by omega)]
        · rw [if_neg q, if_pos (by omega), if_pos (by omega)]
          show ew (rl t a (b - a)) * 32 + ((t (a + (b - a)) : Nat) : Int) - 96 = _
          rw [show a + (b - a) = b by omega]
      have fr : Fr [38] [0] [] [] S (sI (sJ S 0 (lZ (wW t a (b + 1 - a)))) 38 (nI (b + 1))) := ((Fr.refl S).sJ rfl _).sI rfl _
      obtain ⟨T, e1, e2, e3, e4⟩ := ih f (b + 1) _ (by omega) (by omega) (by omega) (by omega) (hb.fr fr rfl rfl) ((fr.I rfl).trans h37) (s_II _ _ _) ((fr.I rfl).trans h39) (s_JJ _ _ _)
      refine ⟨T, ?_, fr.trans e2, by rw [er]; exact e3, by rw [er]; exact e4⟩
      rw [c, kB_t]
      simp (disch := omega) only [k_let, Option.bind_some, ↓reduceIte, eq_self, true_or, or_true, n01_0, n01_1, kb_or, kb_0T, kb_0F, vn_0, vn_1, vn_k, nl_0, nl_1, nl_2, nl_3, nl_4, nl_5, nl_6, nl_7, nl_8, nl_9, nl_10, nl_11, nl_12, nl_13, nl_14, nl_15, nl_16, nl_20, nl_21, nl_22, nl_23, nl_24, nl_25, nl_26, nl_27, nl_28, nl_29, nl_30, nl_31, nl_32, nl_40, nl_41, nl_42, nl_43, nl_45, nl_47, nl_48, nl_50, nl_57, nl_59, nl_60, nl_61, nl_62, nl_63, nl_64, nl_91, nl_93, nl_94, nl_97, nl_98, nl_100, nl_110, nl_122, nl_130, nl_144, nl_160, nl_240, nl_241, nl_255, nl_256, nl_400, nl_800, nl_900, nl_999, nl_1000, nl_1001, nl_1024, nl_1103, nl_1928, nl_4321, nl_5560, nl_12345, nl_1000000, nl_1000003, nl_252645135, nl_858993459, nl_1431655765, nl_1000000000, nI_add, pk_mul, n_sub, n_neg, n_cl, leT, leF, ltT, ltF, eqT, eqF, kbT, s_II, s_In, s_IJ, s_IA, s_IL, s_IR, s_IC, s_JI, s_JJ, s_Jn, s_JA, s_JL, s_JR, s_JC, s_AI, s_AJ, s_AA, s_An, s_AL, s_AR, s_AC, s_LI, s_LJ, s_LA, s_LL, s_Ln, s_LR, s_LC, h15, h37, a1]
      rw [← e1, ev]
      by_cases q : 10 ≤ b - a
      · rw [if_pos q]
        simp (disch := omega) only [k_let, Option.bind_some, ↓reduceIte, eq_self, true_or, or_true, n01_0, n01_1, kb_or, kb_0T, kb_0F, vn_0, vn_1, vn_k, nl_0, nl_1, nl_2, nl_3, nl_4, nl_5, nl_6, nl_7, nl_8, nl_9, nl_10, nl_11, nl_12, nl_13, nl_14, nl_15, nl_16, nl_20, nl_21, nl_22, nl_23, nl_24, nl_25, nl_26, nl_27, nl_28, nl_29, nl_30, nl_31, nl_32, nl_40, nl_41, nl_42, nl_43, nl_45, nl_47, nl_48, nl_50, nl_57, nl_59, nl_60, nl_61, nl_62, nl_63, nl_64, nl_91, nl_93, nl_94, nl_97, nl_98, nl_100, nl_110, nl_122, nl_130, nl_144, nl_160, nl_240, nl_241, nl_255, nl_256, nl_400, nl_800, nl_900, nl_999, nl_1000, nl_1001, nl_1024, nl_1103, nl_1928, nl_4321, nl_5560, nl_12345, nl_1000000, nl_1000003, nl_252645135, nl_858993459, nl_1431655765, nl_1000000000, nI_add, pk_mul, n_sub, n_neg, n_cl, leT, leF, ltT, ltF, eqT, eqF, kbT, s_II, s_In, s_IJ, s_IA, s_IL, s_IR, s_IC, s_JI, s_JJ, s_Jn, s_JA, s_JL, s_JR, s_JC, s_AI, s_AJ, s_AA, s_An, s_AL, s_AR, s_AC, s_LI, s_LJ, s_LA, s_LL, s_Ln, s_LR, s_LC, h15]
        rfl
      · rw [if_neg q]
        simp (disch := omega) only [k_let, Option.bind_some, ↓reduceIte, eq_self, true_or, or_true, n01_0, n01_1, kb_or, kb_0T, kb_0F, vn_0, vn_1, vn_k, nl_0, nl_1, nl_2, nl_3, nl_4, nl_5, nl_6, nl_7, nl_8, nl_9, nl_10, nl_11, nl_12, nl_13, nl_14, nl_15, nl_16, nl_20, nl_21, nl_22, nl_23, nl_24, nl_25, nl_26, nl_27, nl_28, nl_29, nl_30, nl_31, nl_32, nl_40, nl_41, nl_42, nl_43, nl_45, nl_47, nl_48, nl_50, nl_57, nl_59, nl_60, nl_61, nl_62, nl_63, nl_64, nl_91, nl_93, nl_94, nl_97, nl_98, nl_100, nl_110, nl_122, nl_130, nl_144, nl_160, nl_240, nl_241, nl_255, nl_256, nl_400, nl_800, nl_900, nl_999, nl_1000, nl_1001, nl_1024, nl_1103, nl_1928, nl_4321, nl_5560, nl_12345, nl_1000000, nl_1000003, nl_252645135, nl_858993459, nl_1431655765, nl_1000000000, nI_add, pk_mul, n_sub, n_neg, n_cl, leT, leF, ltT, ltF, eqT, eqF, kbT, s_II, s_In, s_IJ, s_IA, s_IL, s_IR, s_IC, s_JI, s_JJ, s_Jn, s_JA, s_JL, s_JR, s_JC, s_AI, s_AJ, s_AA, s_An, s_AL, s_AR, s_AC, s_LI, s_LJ, s_LA, s_LL, s_Ln, s_LR, s_LC, ll_0, ll_1, ll_2, ll_7, ll_8, ll_9, ll_10, ll_20, ll_23, ll_24, ll_26, ll_30, ll_32, ll_48, ll_96, ll_240, ll_256, ll_294, ll_498, ll_999, ll_1000, ll_1103, ll_1476, ll_12345, ll_14836, ll_65536, ll_1000000, ll_1000003, ll_1048576, ll_1000000000, h15, h0, L_n, L_mul, L_add, L_sub]
    · have er : rnk smB t (m + 1) b = b := if_neg c
      refine ⟨S, ?_, Fr.refl S, by rw [er]; exact h15, by rw [er]; exact h0⟩
      rw [Bool.eq_false_iff.mpr c, kB_f]
      simp (disch := omega) only [k_let, Option.bind_some, ↓reduceIte, eq_self, true_or, or_true, n01_0, n01_1, kb_or, kb_0T, kb_0F, vn_0, vn_1, vn_k, nl_0, nl_1, nl_2, nl_3, nl_4, nl_5, nl_6, nl_7, nl_8, nl_9, nl_10, nl_11, nl_12, nl_13, nl_14, nl_15, nl_16, nl_20, nl_21, nl_22, nl_23, nl_24, nl_25, nl_26, nl_27, nl_28, nl_29, nl_30, nl_31, nl_32, nl_40, nl_41, nl_42, nl_43, nl_45, nl_47, nl_48, nl_50, nl_57, nl_59, nl_60, nl_61, nl_62, nl_63, nl_64, nl_91, nl_93, nl_94, nl_97, nl_98, nl_100, nl_110, nl_122, nl_130, nl_144, nl_160, nl_240, nl_241, nl_255, nl_256, nl_400, nl_800, nl_900, nl_999, nl_1000, nl_1001, nl_1024, nl_1103, nl_1928, nl_4321, nl_5560, nl_12345, nl_1000000, nl_1000003, nl_252645135, nl_858993459, nl_1431655765, nl_1000000000, nI_add, pk_mul, n_sub, n_neg, n_cl, leT, leF, ltT, ltF, eqT, eqF, kbT, s_II, s_In, s_IJ, s_IA, s_IL, s_IR, s_IC, s_JI, s_JJ, s_Jn, s_JA, s_JL, s_JR, s_JC, s_AI, s_AJ, s_AA, s_An, s_AL, s_AR, s_AC, s_LI, s_LJ, s_LA, s_LL, s_Ln, s_LR, s_LC]
theorem l_mdig {t : Nat → Nat} {n a : Nat} : ∀ (m f b : Nat) (S : St) (w : Int), a ≤ b → b ≤ n → n - b = m → m < f → Mb t n S → gI S 38 = nI b → gI S 39 = nI 2 → gJ S 0 = lZ w → nuP (vl t a (b - a)) w → ∃ T w', f_X12_next_243 f S = some T ∧ Fr [38] [0] [] [] S T ∧ gI T 38 = nI (rnk dgB t m b) ∧ gJ T 0 = lZ w' ∧ nuP (vl t a (rnk dgB t m b - a)) w' := by
  intro m
  induction m with
  | zero =>
    intro f b S w hab ha hm hf hb h15 h39 h0 hw
    have hn := hb.1
    obtain ⟨f, rfl⟩ : ∃ k, f = k + 1 := ⟨f - 1, by omega⟩
    refine ⟨S, w, ?_, Fr.refl S, h15, h0, hw⟩
    rw [f_X12_next_243]
    unfold f_X12_next_335
    simp (disch := omega) only [k_let, Option.bind_some, ↓reduceIte, eq_self, true_or, or_true, n01_0, n01_1, kb_or, kb_0T, kb_0F, vn_0, vn_1, vn_k, nl_0, nl_1, nl_2, nl_3, nl_4, nl_5, nl_6, nl_7, nl_8, nl_9, nl_10, nl_11, nl_12, nl_13, nl_14, nl_15, nl_16, nl_20, nl_21, nl_22, nl_23, nl_24, nl_25, nl_26, nl_27, nl_28, nl_29, nl_30, nl_31, nl_32, nl_40, nl_41, nl_42, nl_43, nl_45, nl_47, nl_48, nl_50, nl_57, nl_59, nl_60, nl_61, nl_62, nl_63, nl_64, nl_91, nl_93, nl_94, nl_97, nl_98, nl_100, nl_110, nl_122, nl_130, nl_144, nl_160, nl_240, nl_241, nl_255, nl_256, nl_400, nl_800, nl_900, nl_999, nl_1000, nl_1001, nl_1024, nl_1103, nl_1928, nl_4321, nl_5560, nl_12345, nl_1000000, nl_1000003, nl_252645135, nl_858993459, nl_1431655765, nl_1000000000, nI_add, pk_mul, n_sub, n_neg, n_cl, leT, leF, ltT, ltF, eqT, eqF, kbT, s_II, s_In, s_IJ, s_IA, s_IL, s_IR, s_IC, s_JI, s_JJ, s_Jn, s_JA, s_JL, s_JR, s_JC, s_AI, s_AJ, s_AA, s_An, s_AL, s_AR, s_AC, s_LI, s_LJ, s_LA, s_LL, s_Ln, s_LR, s_LC, h15, h39, hb.2.1]
  | succ m ih =>
    intro f b S w hab ha hm hf hb h15 h39 h0 hw
    have hn := hb.1
    obtain ⟨f, rfl⟩ : ∃ k, f = k + 1 := ⟨f - 1, by omega⟩
    obtain ⟨a1, a2⟩ := hb.2.2 b (by omega)
    rw [f_X12_next_243]
    unfold f_X12_next_335 f_X12_next_319
    simp (disch := omega) only [k_let, Option.bind_some, ↓reduceIte, eq_self, true_or, or_true, n01_0, n01_1, kb_or, kb_0T, kb_0F, vn_0, vn_1, vn_k, nl_0, nl_1, nl_2, nl_3, nl_4, nl_5, nl_6, nl_7, nl_8, nl_9, nl_10, nl_11, nl_12, nl_13, nl_14, nl_15, nl_16, nl_20, nl_21, nl_22, nl_23, nl_24, nl_25, nl_26, nl_27, nl_28, nl_29, nl_30, nl_31, nl_32, nl_40, nl_41, nl_42, nl_43, nl_45, nl_47, nl_48, nl_50, nl_57, nl_59, nl_60, nl_61, nl_62, nl_63, nl_64, nl_91, nl_93, nl_94, nl_97, nl_98, nl_100, nl_110, nl_122, nl_130, nl_144, nl_160, nl_240, nl_241, nl_255, nl_256, nl_400, nl_800, nl_900, nl_999, nl_1000, nl_1001, nl_1024, nl_1103, nl_1928, nl_4321, nl_5560, nl_12345, nl_1000000, nl_1000003, nl_252645135, nl_858993459, nl_1431655765, nl_1000000000, nI_add, pk_mul, n_sub, n_neg, n_cl, leT, leF, ltT, ltF, eqT, eqF, kbT, s_II, s_In, s_IJ, s_IA, s_IL, s_IR, s_IC, s_JI, s_JJ, s_Jn, s_JA, s_JL, s_JR, s_JC, s_AI, s_AJ, s_AA, s_An, s_AL, s_AR, s_AC, s_LI, s_LJ, s_LA, s_LL, s_Ln, s_LR, s_LC, h15, h39, hb.2.1, a1]
    rw [e_digit a2]
    by_cases c : dgB (t b) = true
    · have c' := c
      rw [dg_iff] at c'
      have er : rnk dgB t (m + 1) b = rnk dgB t m (b + 1) := if_pos c
      have ev : vl t a (b + 1 - a) = vl t a (b - a) * 10 + (t b - 48) := by
        rw [show b + 1 - a = (b - a) + 1 by omega]
        show _ * 10 + (t (a + (b - a)) - 48) = _
        rw [show a + (b - a) = b by omega]
      obtain ⟨w1, w2, w3, w4⟩ := hw
      have hw' : nuP (vl t a (b + 1 - a)) (if w ≤ 1000000 then w * 10 + (t b : Int) - 48 else w) := by
        rw [ev]
        generalize vl t a (b - a) = V at w1 w2
        unfold nuP
        by_cases q : w ≤ 1000000
        · rw [if_pos q]
          refine ⟨fun z => ?_, fun z => ?_, by omega, by omega⟩
          · have := w1 (by omega); omega
          · by_cases q2 : V ≤ 1000
            · have := w1 q2; omega
            · have := w2 (by omega); omega
        · rw [if_neg q]
          refine ⟨fun z => ?_, fun z => ?_, by omega, by omega⟩
          · have := w1 (by omega); omega
          · omega
      have fr : Fr [38] [0] [] [] S (sI (sJ S 0 (lZ (if w ≤ 1000000 then w * 10 + (t b : Int) - 48 else w))) 38 (nI (b + 1))) := ((Fr.refl S).sJ rfl _).sI rfl _
      obtain ⟨T, w', e1, e2, e3, e4, e5⟩ := ih f (b + 1) _ _ (by omega) (by omega) (by omega) (by omega) (hb.fr fr rfl rfl) (s_II _ _ _) ((fr.I rfl).trans h39) (s_JJ _ _ _) hw'
      refine ⟨T, w', ?_, fr.trans e2, by rw [er]; exact e3, e4, by rw [er]; exact e5⟩
      rw [c, kB_t]
      simp (disch := omega) only [k_let, Option.bind_some, ↓reduceIte, eq_self, true_or, or_true, n01_0, n01_1, kb_or, kb_0T, kb_0F, vn_0, vn_1, vn_k, nl_0, nl_1, nl_2, nl_3, nl_4, nl_5, nl_6, nl_7, nl_8, nl_9, nl_10, nl_11, nl_12, nl_13, nl_14, nl_15, nl_16, nl_20, nl_21, nl_22, nl_23, nl_24, nl_25, nl_26, nl_27, nl_28, nl_29, nl_30, nl_31, nl_32, nl_40, nl_41, nl_42, nl_43, nl_45, nl_47, nl_48, nl_50, nl_57, nl_59, nl_60, nl_61, nl_62, nl_63, nl_64, nl_91, nl_93, nl_94, nl_97, nl_98, nl_100, nl_110, nl_122, nl_130, nl_144, nl_160, nl_240, nl_241, nl_255, nl_256, nl_400, nl_800, nl_900, nl_999, nl_1000, nl_1001, nl_1024, nl_1103, nl_1928, nl_4321, nl_5560, nl_12345, nl_1000000, nl_1000003, nl_252645135, nl_858993459, nl_1431655765, nl_1000000000, nI_add, pk_mul, n_sub, n_neg, n_cl, leT, leF, ltT, ltF, eqT, eqF, kbT, s_II, s_In, s_IJ, s_IA, s_IL, s_IR, s_IC, s_JI, s_JJ, s_Jn, s_JA, s_JL, s_JR, s_JC, s_AI, s_AJ, s_AA, s_An, s_AL, s_AR, s_AC, s_LI, s_LJ, s_LA, s_LL, s_Ln, s_LR, s_LC, h15, a1]
      rw [← e1, h0]
      by_cases q : w ≤ 1000000
      · rw [if_pos (show lZ w ≤ (1000000 : Int64) by rw [show (1000000 : Int64) = lZ 1000000 from rfl, L_le (by omega) (by omega) (by decide) (by decide)]; exact q), if_pos q]
        simp (disch := omega) only [k_let, Option.bind_some, ↓reduceIte, eq_self, true_or, or_true, n01_0, n01_1, kb_or, kb_0T, kb_0F, vn_0, vn_1, vn_k, nl_0, nl_1, nl_2, nl_3, nl_4, nl_5, nl_6, nl_7, nl_8, nl_9, nl_10, nl_11, nl_12, nl_13, nl_14, nl_15, nl_16, nl_20, nl_21, nl_22, nl_23, nl_24, nl_25, nl_26, nl_27, nl_28, nl_29, nl_30, nl_31, nl_32, nl_40, nl_41, nl_42, nl_43, nl_45, nl_47, nl_48, nl_50, nl_57, nl_59, nl_60, nl_61, nl_62, nl_63, nl_64, nl_91, nl_93, nl_94, nl_97, nl_98, nl_100, nl_110, nl_122, nl_130, nl_144, nl_160, nl_240, nl_241, nl_255, nl_256, nl_400, nl_800, nl_900, nl_999, nl_1000, nl_1001, nl_1024, nl_1103, nl_1928, nl_4321, nl_5560, nl_12345, nl_1000000, nl_1000003, nl_252645135, nl_858993459, nl_1431655765, nl_1000000000, nI_add, pk_mul, n_sub, n_neg, n_cl, leT, leF, ltT, ltF, eqT, eqF, kbT, s_II, s_In, s_IJ, s_IA, s_IL, s_IR, s_IC, s_JI, s_JJ, s_Jn, s_JA, s_JL, s_JR, s_JC, s_AI, s_AJ, s_AA, s_An, s_AL, s_AR, s_AC, s_LI, s_LJ, s_LA, s_LL, s_Ln, s_LR, s_LC, ll_0, ll_1, ll_2, ll_7, ll_8, ll_9, ll_10, ll_20, ll_23, ll_24, ll_26, ll_30, ll_32, ll_48, ll_96, ll_240, ll_256, ll_294, ll_498, ll_999, ll_1000, ll_1103, ll_1476, ll_12345, ll_14836, ll_65536, ll_1000000, ll_1000003, ll_1048576, ll_1000000000, h15, h0, L_n, L_mul, L_add, L_sub]
      · rw [if_neg (show ¬ lZ w ≤ (1000000 : Int64) by rw [show (1000000 : Int64) = lZ 1000000 from rfl, L_le (by omega) (by omega) (by decide) (by decide)]; exact q), if_neg q]
    · have er : rnk dgB t (m + 1) b = b := if_neg c
      refine ⟨S, w, ?_, Fr.refl S, by rw [er]; exact h15, h0, by rw [er]; exact hw⟩
      rw [Bool.eq_false_iff.mpr c, kB_f]
      simp (disch := omega) only [k_let, Option.bind_some, ↓reduceIte, eq_self, true_or, or_true, n01_0, n01_1, kb_or, kb_0T, kb_0F, vn_0, vn_1, vn_k, nl_0, nl_1, nl_2, nl_3, nl_4, nl_5, nl_6, nl_7, nl_8, nl_9, nl_10, nl_11, nl_12, nl_13, nl_14, nl_15, nl_16, nl_20, nl_21, nl_22, nl_23, nl_24, nl_25, nl_26, nl_27, nl_28, nl_29, nl_30, nl_31, nl_32, nl_40, nl_41, nl_42, nl_43, nl_45, nl_47, nl_48, nl_50, nl_57, nl_59, nl_60, nl_61, nl_62, nl_63, nl_64, nl_91, nl_93, nl_94, nl_97, nl_98, nl_100, nl_110, nl_122, nl_130, nl_144, nl_160, nl_240, nl_241, nl_255, nl_256, nl_400, nl_800, nl_900, nl_999, nl_1000, nl_1001, nl_1024, nl_1103, nl_1928, nl_4321, nl_5560, nl_12345, nl_1000000, nl_1000003, nl_252645135, nl_858993459, nl_1431655765, nl_1000000000, nI_add, pk_mul, n_sub, n_neg, n_cl, leT, leF, ltT, ltF, eqT, eqF, kbT, s_II, s_In, s_IJ, s_IA, s_IL, s_IR, s_IC, s_JI, s_JJ, s_Jn, s_JA, s_JL, s_JR, s_JC, s_AI, s_AJ, s_AA, s_An, s_AL, s_AR, s_AC, s_LI, s_LJ, s_LA, s_LL, s_Ln, s_LR, s_LC]
/-- the reference's reader stands at the token that begins at a -/
def Mtk (t : Nat → Nat) (n a : Nat) (S : St) : Prop := Mb t n S ∧ a ≤ n ∧ gI S 37 = nI a ∧ gI S 38 = nI (en t n a) ∧ gI S 39 = nI (kd t n a) ∧ (kd t n a = 1 → gJ S 0 = lZ (wW t a (en t n a - a))) ∧ (kd t n a = 2 → ∃ w, gJ S 0 = lZ w ∧ nuP (vl t a (en t n a - a)) w) ∧ (kd t n a = 3 → gJ S 0 = lZ (t a))
theorem Mtk.fr {t : Nat → Nat} {n a : Nat} {S T : St} {ci cj ca cl : List Nat} (h : Mtk t n a S) (f : Fr ci cj ca cl S T) (h0 : ci.contains 36 = false) (h1 : ci.contains 37 = false) (h2 : ci.contains 38 = false) (h3 : ci.contains 39 = false) (h4 : cj.contains 0 = false) (h5 : ca.contains 56 = false) : Mtk t n a T := by
  obtain ⟨b1, b2, b3, b4, b5, b6, b7, b8⟩ := h
  have e := f.J h4
  refine ⟨b1.fr f h0 h5, b2, (f.I h1).trans b3, (f.I h2).trans b4, (f.I h3).trans b5, ?_, ?_, ?_⟩
  · rw [e]; exact b6
  · rw [e]; exact b7
  · rw [e]; exact b8
theorem e_next {t : Nat → Nat} {n p : Nat} {S : St} (hb : Mb t n S) (hp : p ≤ n) (h38 : gI S 38 = nI p) : ∃ T, f_X12_next S = some T ∧ Fr [37, 38, 39] [0] [] [] S T ∧ Mtk t n (sk t (n - p) p) T := by
  have hn := hb.1
  have F1 : 1000 < FU := FU_ge (by decide)
  have f0 : Fr [37] [] [] [] S (sI S 37 (nI p)) := (Fr.refl S).sI rfl _
  obtain ⟨T, e1, e2, e3⟩ := l_mskip (n - p) FU p (sI S 37 (nI p)) hp rfl (by omega) (hb.fr f0 rfl rfl) (s_II _ _ _)
  have hsk := sk_le t (n - p) p
  generalize ha : sk t (n - p) p = a at e3 hsk ⊢
  have fT : Fr [37] [] [] [] S T := f0.trans e2
  have bT : Mb t n T := hb.fr fT rfl rfl
  have e0 : f_X12_next S = f_X12_next_46 T := by
    unfold f_X12_next
    rw [h38]
    exact e1
  rw [e0]
  unfold f_X12_next_46 f_X12_next_114
  have fend : ∀ (U : St) (q : Nat), gI U 39 = nI q → q ≠ 2 → q < 4 → f_X12_next_243 FU U = some U := fun U q hq h2 h4 => by
    obtain ⟨k, hk⟩ : ∃ k, FU = k + 1 := ⟨FU - 1, by omega⟩
    rw [hk, f_X12_next_243]
    unfold f_X12_next_335
    simp (disch := omega) only [k_let, Option.bind_some, ↓reduceIte, eq_self, true_or, or_true, n01_0, n01_1, kb_or, kb_0T, kb_0F, vn_0, vn_1, vn_k, nl_0, nl_1, nl_2, nl_3, nl_4, nl_5, nl_6, nl_7, nl_8, nl_9, nl_10, nl_11, nl_12, nl_13, nl_14, nl_15, nl_16, nl_20, nl_21, nl_22, nl_23, nl_24, nl_25, nl_26, nl_27, nl_28, nl_29, nl_30, nl_31, nl_32, nl_40, nl_41, nl_42, nl_43, nl_45, nl_47, nl_48, nl_50, nl_57, nl_59, nl_60, nl_61, nl_62, nl_63, nl_64, nl_91, nl_93, nl_94, nl_97, nl_98, nl_100, nl_110, nl_122, nl_130, nl_144, nl_160, nl_240, nl_241, nl_255, nl_256, nl_400, nl_800, nl_900, nl_999, nl_1000, nl_1001, nl_1024, nl_1103, nl_1928, nl_4321, nl_5560, nl_12345, nl_1000000, nl_1000003, nl_252645135, nl_858993459, nl_1431655765, nl_1000000000, nI_add, pk_mul, n_sub, n_neg, n_cl, leT, leF, ltT, ltF, eqT, eqF, kbT, s_II, s_In, s_IJ, s_IA, s_IL, s_IR, s_IC, s_JI, s_JJ, s_Jn, s_JA, s_JL, s_JR, s_JC, s_AI, s_AJ, s_AA, s_An, s_AL, s_AR, s_AC, s_LI, s_LJ, s_LA, s_LL, s_Ln, s_LR, s_LC, hq]
  have flet : ∀ (U : St) (q : Nat), gI U 39 = nI q → q ≠ 1 → q < 4 → f_X12_next_149 FU U = f_X12_next_243 FU U := fun U q hq h2 h4 => by
    obtain ⟨k, hk⟩ : ∃ k, FU = k + 1 := ⟨FU - 1, by omega⟩
    have e : f_X12_next_149 (k + 1) U = f_X12_next_243 FU U := by
      rw [f_X12_next_149]
      simp (disch := omega) only [k_let, Option.bind_some, ↓reduceIte, eq_self, true_or, or_true, n01_0, n01_1, kb_or, kb_0T, kb_0F, vn_0, vn_1, vn_k, nl_0, nl_1, nl_2, nl_3, nl_4, nl_5, nl_6, nl_7, nl_8, nl_9, nl_10, nl_11, nl_12, nl_13, nl_14, nl_15, nl_16, nl_20, nl_21, nl_22, nl_23, nl_24, nl_25, nl_26, nl_27, nl_28, nl_29, nl_30, nl_31, nl_32, nl_40, nl_41, nl_42, nl_43, nl_45, nl_47, nl_48, nl_50, nl_57, nl_59, nl_60, nl_61, nl_62, nl_63, nl_64, nl_91, nl_93, nl_94, nl_97, nl_98, nl_100, nl_110, nl_122, nl_130, nl_144, nl_160, nl_240, nl_241, nl_255, nl_256, nl_400, nl_800, nl_900, nl_999, nl_1000, nl_1001, nl_1024, nl_1103, nl_1928, nl_4321, nl_5560, nl_12345, nl_1000000, nl_1000003, nl_252645135, nl_858993459, nl_1431655765, nl_1000000000, nI_add, pk_mul, n_sub, n_neg, n_cl, leT, leF, ltT, ltF, eqT, eqF, kbT, s_II, s_In, s_IJ, s_IA, s_IL, s_IR, s_IC, s_JI, s_JJ, s_Jn, s_JA, s_JL, s_JR, s_JC, s_AI, s_AJ, s_AA, s_An, s_AL, s_AR, s_AC, s_LI, s_LJ, s_LA, s_LL, s_Ln, s_LR, s_LC, hq]
    rw [← hk] at e
    exact e
  have fU : ∀ q : Int32, Fr [37, 38, 39] [0] [] [] S (sI (sJ (sI T 38 (nI a)) 0 (lZ 0)) 39 q) := fun q => (((fT.mono (ci' := [37, 38, 39]) (cj' := [0]) (ca' := []) (cl' := []) rfl rfl rfl rfl).sI rfl _).sJ rfl _).sI rfl _
  have bU : ∀ q : Int32, Mb t n (sI (sJ (sI T 38 (nI a)) 0 (lZ 0)) 39 q) := fun q => hb.fr (fU q) rfl rfl
  by_cases c : a < n
  · obtain ⟨a1, a2⟩ := bT.2.2 a c
    simp (disch := omega) only [k_let, Option.bind_some, ↓reduceIte, eq_self, true_or, or_true, n01_0, n01_1, kb_or, kb_0T, kb_0F, vn_0, vn_1, vn_k, nl_0, nl_1, nl_2, nl_3, nl_4, nl_5, nl_6, nl_7, nl_8, nl_9, nl_10, nl_11, nl_12, nl_13, nl_14, nl_15, nl_16, nl_20, nl_21, nl_22, nl_23, nl_24, nl_25, nl_26, nl_27, nl_28, nl_29, nl_30, nl_31, nl_32, nl_40, nl_41, nl_42, nl_43, nl_45, nl_47, nl_48, nl_50, nl_57, nl_59, nl_60, nl_61, nl_62, nl_63, nl_64, nl_91, nl_93, nl_94, nl_97, nl_98, nl_100, nl_110, nl_122, nl_130, nl_144, nl_160, nl_240, nl_241, nl_255, nl_256, nl_400, nl_800, nl_900, nl_999, nl_1000, nl_1001, nl_1024, nl_1103, nl_1928, nl_4321, nl_5560, nl_12345, nl_1000000, nl_1000003, nl_252645135, nl_858993459, nl_1431655765, nl_1000000000, nI_add, pk_mul, n_sub, n_neg, n_cl, leT, leF, ltT, ltF, eqT, eqF, kbT, s_II, s_In, s_IJ, s_IA, s_IL, s_IR, s_IC, s_JI, s_JJ, s_Jn, s_JA, s_JL, s_JR, s_JC, s_AI, s_AJ, s_AA, s_An, s_AL, s_AR, s_AC, s_LI, s_LJ, s_LA, s_LL, s_Ln, s_LR, s_LC, ll_0, ll_1, ll_2, ll_7, ll_8, ll_9, ll_10, ll_20, ll_23, ll_24, ll_26, ll_30, ll_32, ll_48, ll_96, ll_240, ll_256, ll_294, ll_498, ll_999, ll_1000, ll_1103, ll_1476, ll_12345, ll_14836, ll_65536, ll_1000000, ll_1000003, ll_1048576, ll_1000000000, e3, bT.2.1, a1]
    rw [e_small a2]
    by_cases c1 : smB (t a) = true
    · rw [c1, kB_t]
      simp (disch := omega) only [k_let, Option.bind_some, ↓reduceIte, eq_self, true_or, or_true, n01_0, n01_1, kb_or, kb_0T, kb_0F, vn_0, vn_1, vn_k, nl_0, nl_1, nl_2, nl_3, nl_4, nl_5, nl_6, nl_7, nl_8, nl_9, nl_10, nl_11, nl_12, nl_13, nl_14, nl_15, nl_16, nl_20, nl_21, nl_22, nl_23, nl_24, nl_25, nl_26, nl_27, nl_28, nl_29, nl_30, nl_31, nl_32, nl_40, nl_41, nl_42, nl_43, nl_45, nl_47, nl_48, nl_50, nl_57, nl_59, nl_60, nl_61, nl_62, nl_63, nl_64, nl_91, nl_93, nl_94, nl_97, nl_98, nl_100, nl_110, nl_122, nl_130, nl_144, nl_160, nl_240, nl_241, nl_255, nl_256, nl_400, nl_800, nl_900, nl_999, nl_1000, nl_1001, nl_1024, nl_1103, nl_1928, nl_4321, nl_5560, nl_12345, nl_1000000, nl_1000003, nl_252645135, nl_858993459, nl_1431655765, nl_1000000000, nI_add, pk_mul, n_sub, n_neg, n_cl, leT, leF, ltT, ltF, eqT, eqF, kbT, s_II, s_In, s_IJ, s_IA, s_IL, s_IR, s_IC, s_JI, s_JJ, s_Jn, s_JA, s_JL, s_JR, s_JC, s_AI, s_AJ, s_AA, s_An, s_AL, s_AR, s_AC, s_LI, s_LJ, s_LA, s_LL, s_Ln, s_LR, s_LC]
      have hk : kd t n a = 1 := by unfold kd; rw [if_neg (by omega), if_pos c1]
      have he : en t n a = rnk smB t (n - a) a := by unfold en; rw [if_neg (by omega), if_pos c1]
      obtain ⟨V, g1, g2, g3, g4⟩ := l_mlet (a := a) (n - a) FU a _ (Nat.le_refl a) (by omega) rfl (by omega) (bU (nI 1)) (by simp (disch := omega) only [k_let, Option.bind_some, ↓reduceIte, eq_self, true_or, or_true, n01_0, n01_1, kb_or, kb_0T, kb_0F, vn_0, vn_1, vn_k, nl_0, nl_1, nl_2, nl_3, nl_4, nl_5, nl_6, nl_7, nl_8, nl_9, nl_10, nl_11, nl_12, nl_13, nl_14, nl_15, nl_16, nl_20, nl_21, nl_22, nl_23, nl_24, nl_25, nl_26, nl_27, nl_28, nl_29, nl_30, nl_31, nl_32, nl_40, nl_41, nl_42, nl_43, nl_45, nl_47, nl_48, nl_50, nl_57, nl_59, nl_60, nl_61, nl_62, nl_63, nl_64, nl_91, nl_93, nl_94, nl_97, nl_98, nl_100, nl_110, nl_122, nl_130, nl_144, nl_160, nl_240, nl_241, nl_255, nl_256, nl_400, nl_800, nl_900, nl_999, nl_1000, nl_1001, nl_1024, nl_1103, nl_1928, nl_4321, nl_5560, nl_12345, nl_1000000, nl_1000003, nl_252645135, nl_858993459, nl_1431655765, nl_1000000000, nI_add, pk_mul, n_sub, n_neg, n_cl, leT, leF, ltT, ltF, eqT, eqF, kbT, s_II, s_In, s_IJ, s_IA, s_IL, s_IR, s_IC, s_JI, s_JJ, s_Jn, s_JA, s_JL, s_JR, s_JC, s_AI, s_AJ, s_AA, s_An, s_AL, s_AR, s_AC, s_LI, s_LJ, s_LA, s_LL, s_Ln, s_LR, s_LC, e3]) (by simp (disch := omega) only [k_let, Option.bind_some, ↓reduceIte, eq_self, true_or, or_true, n01_0, n01_1, kb_or, kb_0T, kb_0F, vn_0, vn_1, vn_k, nl_0, nl_1, nl_2, nl_3, nl_4, nl_5, nl_6, nl_7, nl_8, nl_9, nl_10, nl_11, nl_12, nl_13, nl_14, nl_15, nl_16, nl_20, nl_21, nl_22, nl_23, nl_24, nl_25, nl_26, nl_27, nl_28, nl_29, nl_30, nl_31, nl_32, nl_40, nl_41, nl_42, nl_43, nl_45, nl_47, nl_48, nl_50, nl_57, nl_59, nl_60, nl_61, nl_62, nl_63, nl_64, nl_91, nl_93, nl_94, nl_97, nl_98, nl_100, nl_110, nl_122, nl_130, nl_144, nl_160, nl_240, nl_241, nl_255, nl_256, nl_400, nl_800, nl_900, nl_999, nl_1000, nl_1001, nl_1024, nl_1103, nl_1928, nl_4321, nl_5560, nl_12345, nl_1000000, nl_1000003, nl_252645135, nl_858993459, nl_1431655765, nl_1000000000, nI_add, pk_mul, n_sub, n_neg, n_cl, leT, leF, ltT, ltF, eqT, eqF, kbT, s_II, s_In, s_IJ, s_IA, s_IL, s_IR, s_IC, s_JI, s_JJ, s_Jn, s_JA, s_JL, s_JR, s_JC, s_AI, s_AJ, s_AA, s_An, s_AL, s_AR, s_AC, s_LI, s_LJ, s_LA, s_LL, s_Ln, s_LR, s_LC]) (s_II _ _ _) (by rw [Nat.sub_self]; rfl)
      have v39 : gI V 39 = nI 1 := (g2.I rfl).trans (s_II _ _ _)
      refine ⟨V, ?_, (fU _).trans (g2.mono rfl rfl rfl rfl), (bU _).fr g2 rfl rfl, by omega, ?_, ?_, ?_, ?_, ?_, ?_⟩
      · rw [g1, fend V 1 v39 (by decide) (by decide)]
      · rw [g2.I rfl]; simp (disch := omega) only [k_let, Option.bind_some, ↓reduceIte, eq_self, true_or, or_true, n01_0, n01_1, kb_or, kb_0T, kb_0F, vn_0, vn_1, vn_k, nl_0, nl_1, nl_2, nl_3, nl_4, nl_5, nl_6, nl_7, nl_8, nl_9, nl_10, nl_11, nl_12, nl_13, nl_14, nl_15, nl_16, nl_20, nl_21, nl_22, nl_23, nl_24, nl_25, nl_26, nl_27, nl_28, nl_29, nl_30, nl_31, nl_32, nl_40, nl_41, nl_42, nl_43, nl_45, nl_47, nl_48, nl_50, nl_57, nl_59, nl_60, nl_61, nl_62, nl_63, nl_64, nl_91, nl_93, nl_94, nl_97, nl_98, nl_100, nl_110, nl_122, nl_130, nl_144, nl_160, nl_240, nl_241, nl_255, nl_256, nl_400, nl_800, nl_900, nl_999, nl_1000, nl_1001, nl_1024, nl_1103, nl_1928, nl_4321, nl_5560, nl_12345, nl_1000000, nl_1000003, nl_252645135, nl_858993459, nl_1431655765, nl_1000000000, nI_add, pk_mul, n_sub, n_neg, n_cl, leT, leF, ltT, ltF, eqT, eqF, kbT, s_II, s_In, s_IJ, s_IA, s_IL, s_IR, s_IC, s_JI, s_JJ, s_Jn, s_JA, s_JL, s_JR, s_JC, s_AI, s_AJ, s_AA, s_An, s_AL, s_AR, s_AC, s_LI, s_LJ, s_LA, s_LL, s_Ln, s_LR, s_LC, e3]
      · rw [he]; exact g3
      · rw [hk]; exact v39
      · intro _; rw [he]; exact g4
      · intro q; rw [hk] at q; cases q
      · intro q; rw [hk] at q; cases q
    · rw [Bool.eq_false_iff.mpr c1, kB_f]
      simp (disch := omega) only [k_let, Option.bind_some, ↓reduceIte, eq_self, true_or, or_true, n01_0, n01_1, kb_or, kb_0T, kb_0F, vn_0, vn_1, vn_k, nl_0, nl_1, nl_2, nl_3, nl_4, nl_5, nl_6, nl_7, nl_8, nl_9, nl_10, nl_11, nl_12, nl_13, nl_14, nl_15, nl_16, nl_20, nl_21, nl_22, nl_23, nl_24, nl_25, nl_26, nl_27, nl_28, nl_29, nl_30, nl_31, nl_32, nl_40, nl_41, nl_42, nl_43, nl_45, nl_47, nl_48, nl_50, nl_57, nl_59, nl_60, nl_61, nl_62, nl_63, nl_64, nl_91, nl_93, nl_94, nl_97, nl_98, nl_100, nl_110, nl_122, nl_130, nl_144, nl_160, nl_240, nl_241, nl_255, nl_256, nl_400, nl_800, nl_900, nl_999, nl_1000, nl_1001, nl_1024, nl_1103, nl_1928, nl_4321, nl_5560, nl_12345, nl_1000000, nl_1000003, nl_252645135, nl_858993459, nl_1431655765, nl_1000000000, nI_add, pk_mul, n_sub, n_neg, n_cl, leT, leF, ltT, ltF, eqT, eqF, kbT, s_II, s_In, s_IJ, s_IA, s_IL, s_IR, s_IC, s_JI, s_JJ, s_Jn, s_JA, s_JL, s_JR, s_JC, s_AI, s_AJ, s_AA, s_An, s_AL, s_AR, s_AC, s_LI, s_LJ, s_LA, s_LL, s_Ln, s_LR, s_LC, e3, a1]
      rw [e_digit a2]
      by_cases c2 : dgB (t a) = true
      · rw [c2, kB_t]
        simp (disch := omega) only [k_let, Option.bind_some, ↓reduceIte, eq_self, true_or, or_true, n01_0, n01_1, kb_or, kb_0T, kb_0F, vn_0, vn_1, vn_k, nl_0, nl_1, nl_2, nl_3, nl_4, nl_5, nl_6, nl_7, nl_8, nl_9, nl_10, nl_11, nl_12, nl_13, nl_14, nl_15, nl_16, nl_20, nl_21, nl_22, nl_23, nl_24, nl_25, nl_26, nl_27, nl_28, nl_29, nl_30, nl_31, nl_32, nl_40, nl_41, nl_42, nl_43, nl_45, nl_47, nl_48, nl_50, nl_57, nl_59, nl_60, nl_61, nl_62, nl_63, nl_64, nl_91, nl_93, nl_94, nl_97, nl_98, nl_100, nl_110, nl_122, nl_130, nl_144, nl_160, nl_240, nl_241, nl_255, nl_256, nl_400, nl_800, nl_900, nl_999, nl_1000, nl_1001, nl_1024, nl_1103, nl_1928, nl_4321, nl_5560, nl_12345, nl_1000000, nl_1000003, nl_252645135, nl_858993459, nl_1431655765, nl_1000000000, nI_add, pk_mul, n_sub, n_neg, n_cl, leT, leF, ltT, ltF, eqT, eqF, kbT, s_II, s_In, s_IJ, s_IA, s_IL, s_IR, s_IC, s_JI, s_JJ, s_Jn, s_JA, s_JL, s_JR, s_JC, s_AI, s_AJ, s_AA, s_An, s_AL, s_AR, s_AC, s_LI, s_LJ, s_LA, s_LL, s_Ln, s_LR, s_LC]
        have hk : kd t n a = 2 := by unfold kd; rw [if_neg (by omega), if_neg c1, if_pos c2]
        have he : en t n a = rnk dgB t (n - a) a := by unfold en; rw [if_neg (by omega), if_neg c1, if_pos c2]
        obtain ⟨V, w, g1, g2, g3, g4, g5⟩ := l_mdig (a := a) (n - a) FU a _ 0 (Nat.le_refl a) (by omega) rfl (by omega) (bU (nI 2)) (by simp (disch := omega) only [k_let, Option.bind_some, ↓reduceIte, eq_self, true_or, or_true, n01_0, n01_1, kb_or, kb_0T, kb_0F, vn_0, vn_1, vn_k, nl_0, nl_1, nl_2, nl_3, nl_4, nl_5, nl_6, nl_7, nl_8, nl_9, nl_10, nl_11, nl_12, nl_13, nl_14, nl_15, nl_16, nl_20, nl_21, nl_22, nl_23, nl_24, nl_25, nl_26, nl_27, nl_28, nl_29, nl_30, nl_31, nl_32, nl_40, nl_41, nl_42, nl_43, nl_45, nl_47, nl_48, nl_50, nl_57, nl_59, nl_60, nl_61, nl_62, nl_63, nl_64, nl_91, nl_93, nl_94, nl_97, nl_98, nl_100, nl_110, nl_122, nl_130, nl_144, nl_160, nl_240, nl_241, nl_255, nl_256, nl_400, nl_800, nl_900, nl_999, nl_1000, nl_1001, nl_1024, nl_1103, nl_1928, nl_4321, nl_5560, nl_12345, nl_1000000, nl_1000003, nl_252645135, nl_858993459, nl_1431655765, nl_1000000000, nI_add, pk_mul, n_sub, n_neg, n_cl, leT, leF, ltT, ltF, eqT, eqF, kbT, s_II, s_In, s_IJ, s_IA, s_IL, s_IR, s_IC, s_JI, s_JJ, s_Jn, s_JA, s_JL, s_JR, s_JC, s_AI, s_AJ, s_AA, s_An, s_AL, s_AR, s_AC, s_LI, s_LJ, s_LA, s_LL, s_Ln, s_LR, s_LC]) (s_II _ _ _) (by simp (disch := omega) only [k_let, Option.bind_some, ↓reduceIte, eq_self, true_or, or_true, n01_0, n01_1, kb_or, kb_0T, kb_0F, vn_0, vn_1, vn_k, nl_0, nl_1, nl_2, nl_3, nl_4, nl_5, nl_6, nl_7, nl_8, nl_9, nl_10, nl_11, nl_12, nl_13, nl_14, nl_15, nl_16, nl_20, nl_21, nl_22, nl_23, nl_24, nl_25, nl_26, nl_27, nl_28, nl_29, nl_30, nl_31, nl_32, nl_40, nl_41, nl_42, nl_43, nl_45, nl_47, nl_48, nl_50, nl_57, nl_59, nl_60, nl_61, nl_62, nl_63, nl_64, nl_91, nl_93, nl_94, nl_97, nl_98, nl_100, nl_110, nl_122, nl_130, nl_144, nl_160, nl_240, nl_241, nl_255, nl_256, nl_400, nl_800, nl_900, nl_999, nl_1000, nl_1001, nl_1024, nl_1103, nl_1928, nl_4321, nl_5560, nl_12345, nl_1000000, nl_1000003, nl_252645135, nl_858993459, nl_1431655765, nl_1000000000, nI_add, pk_mul, n_sub, n_neg, n_cl, leT, leF, ltT, ltF, eqT, eqF, kbT, s_II, s_In, s_IJ, s_IA, s_IL, s_IR, s_IC, s_JI, s_JJ, s_Jn, s_JA, s_JL, s_JR, s_JC, s_AI, s_AJ, s_AA, s_An, s_AL, s_AR, s_AC, s_LI, s_LJ, s_LA, s_LL, s_Ln, s_LR, s_LC]) (by rw [Nat.sub_self]; exact ⟨fun _ => rfl, fun q => absurd q (by show ¬ 1000 < 0; decide), by decide, by decide⟩)
        refine ⟨V, ?_, (fU _).trans (g2.mono rfl rfl rfl rfl), (bU _).fr g2 rfl rfl, by omega, ?_, ?_, ?_, ?_, ?_, ?_⟩
        · rw [flet _ 2 (s_II _ _ _) (by decide) (by decide), g1]
        · rw [g2.I rfl]; simp (disch := omega) only [k_let, Option.bind_some, ↓reduceIte, eq_self, true_or, or_true, n01_0, n01_1, kb_or, kb_0T, kb_0F, vn_0, vn_1, vn_k, nl_0, nl_1, nl_2, nl_3, nl_4, nl_5, nl_6, nl_7, nl_8, nl_9, nl_10, nl_11, nl_12, nl_13, nl_14, nl_15, nl_16, nl_20, nl_21, nl_22, nl_23, nl_24, nl_25, nl_26, nl_27, nl_28, nl_29, nl_30, nl_31, nl_32, nl_40, nl_41, nl_42, nl_43, nl_45, nl_47, nl_48, nl_50, nl_57, nl_59, nl_60, nl_61, nl_62, nl_63, nl_64, nl_91, nl_93, nl_94, nl_97, nl_98, nl_100, nl_110, nl_122, nl_130, nl_144, nl_160, nl_240, nl_241, nl_255, nl_256, nl_400, nl_800, nl_900, nl_999, nl_1000, nl_1001, nl_1024, nl_1103, nl_1928, nl_4321, nl_5560, nl_12345, nl_1000000, nl_1000003, nl_252645135, nl_858993459, nl_1431655765, nl_1000000000, nI_add, pk_mul, n_sub, n_neg, n_cl, leT, leF, ltT, ltF, eqT, eqF, kbT, s_II, s_In, s_IJ, s_IA, s_IL, s_IR, s_IC, s_JI, s_JJ, s_Jn, s_JA, s_JL, s_JR, s_JC, s_AI, s_AJ, s_AA, s_An, s_AL, s_AR, s_AC, s_LI, s_LJ, s_LA, s_LL, s_Ln, s_LR, s_LC, e3]
        · rw [he]; exact g3
        · rw [hk]; exact (g2.I rfl).trans (s_II _ _ _)
        · intro q; rw [hk] at q; cases q
        · intro _; rw [he]; exact ⟨w, g4, g5⟩
        · intro q; rw [hk] at q; cases q
      · rw [Bool.eq_false_iff.mpr c2, kB_f]
        simp (disch := omega) only [k_let, Option.bind_some, ↓reduceIte, eq_self, true_or, or_true, n01_0, n01_1, kb_or, kb_0T, kb_0F, vn_0, vn_1, vn_k, nl_0, nl_1, nl_2, nl_3, nl_4, nl_5, nl_6, nl_7, nl_8, nl_9, nl_10, nl_11, nl_12, nl_13, nl_14, nl_15, nl_16, nl_20, nl_21, nl_22, nl_23, nl_24, nl_25, nl_26, nl_27, nl_28, nl_29, nl_30, nl_31, nl_32, nl_40, nl_41, nl_42, nl_43, nl_45, nl_47, nl_48, nl_50, nl_57, nl_59, nl_60, nl_61, nl_62, nl_63, nl_64, nl_91, nl_93, nl_94, nl_97, nl_98, nl_100, nl_110, nl_122, nl_130, nl_144, nl_160, nl_240, nl_241, nl_255, nl_256, nl_400, nl_800, nl_900, nl_999, nl_1000, nl_1001, nl_1024, nl_1103, nl_1928, nl_4321, nl_5560, nl_12345, nl_1000000, nl_1000003, nl_252645135, nl_858993459, nl_1431655765, nl_1000000000, nI_add, pk_mul, n_sub, n_neg, n_cl, leT, leF, ltT, ltF, eqT, eqF, kbT, s_II, s_In, s_IJ, s_IA, s_IL, s_IR, s_IC, s_JI, s_JJ, s_Jn, s_JA, s_JL, s_JR, s_JC, s_AI, s_AJ, s_AA, s_An, s_AL, s_AR, s_AC, s_LI, s_LJ, s_LA, s_LL, s_Ln, s_LR, s_LC, e3, a1, L_n]
        have hk : kd t n a = 3 := by unfold kd; rw [if_neg (by omega), if_neg c1, if_neg c2]
        have he : en t n a = a + 1 := by unfold en; rw [if_neg (by omega), if_neg c1, if_neg c2]
        have fV : Fr [38] [0] [] [] (sI (sJ (sI T 38 (nI a)) 0 (lZ 0)) 39 (nI 3)) (sI (sJ (sI (sJ (sI T 38 (nI a)) 0 (lZ 0)) 39 (nI 3)) 0 (lZ (t a))) 38 (nI (a + 1))) := ((Fr.refl _).sJ rfl _).sI rfl _
        have v39 : gI (sI (sJ (sI (sJ (sI T 38 (nI a)) 0 (lZ 0)) 39 (nI 3)) 0 (lZ (t a))) 38 (nI (a + 1))) 39 = nI 3 := (fV.I rfl).trans (s_II _ _ _)
        refine ⟨_, ?_, (fU _).trans (fV.mono rfl rfl rfl rfl), (bU _).fr fV rfl rfl, by omega, ?_, ?_, ?_, ?_, ?_, ?_⟩
        · rw [flet _ 3 v39 (by decide) (by decide), fend _ 3 v39 (by decide) (by decide)]
        · rw [fV.I rfl]; simp (disch := omega) only [k_let, Option.bind_some, ↓reduceIte, eq_self, true_or, or_true, n01_0, n01_1, kb_or, kb_0T, kb_0F, vn_0, vn_1, vn_k, nl_0, nl_1, nl_2, nl_3, nl_4, nl_5, nl_6, nl_7, nl_8, nl_9, nl_10, nl_11, nl_12, nl_13, nl_14, nl_15, nl_16, nl_20, nl_21, nl_22, nl_23, nl_24, nl_25, nl_26, nl_27, nl_28, nl_29, nl_30, nl_31, nl_32, nl_40, nl_41, nl_42, nl_43, nl_45, nl_47, nl_48, nl_50, nl_57, nl_59, nl_60, nl_61, nl_62, nl_63, nl_64, nl_91, nl_93, nl_94, nl_97, nl_98, nl_100, nl_110, nl_122, nl_130, nl_144, nl_160, nl_240, nl_241, nl_255, nl_256, nl_400, nl_800, nl_900, nl_999, nl_1000, nl_1001, nl_1024, nl_1103, nl_1928, nl_4321, nl_5560, nl_12345, nl_1000000, nl_1000003, nl_252645135, nl_858993459, nl_1431655765, nl_1000000000, nI_add, pk_mul, n_sub, n_neg, n_cl, leT, leF, ltT, ltF, eqT, eqF, kbT, s_II, s_In, s_IJ, s_IA, s_IL, s_IR, s_IC, s_JI, s_JJ, s_Jn, s_JA, s_JL, s_JR, s_JC, s_AI, s_AJ, s_AA, s_An, s_AL, s_AR, s_AC, s_LI, s_LJ, s_LA, s_LL, s_Ln, s_LR, s_LC, e3]
        · rw [he]; exact s_II _ _ _
        · rw [hk]; exact v39
        · intro q; rw [hk] at q; cases q
        · intro q; rw [hk] at q; cases q
        · intro _; exact s_JJ _ _ _
  · have hk : kd t n a = 0 := by unfold kd; rw [if_pos (by omega)]
    have he : en t n a = a := by unfold en; rw [if_pos (by omega)]
    simp (disch := omega) only [k_let, Option.bind_some, ↓reduceIte, eq_self, true_or, or_true, n01_0, n01_1, kb_or, kb_0T, kb_0F, vn_0, vn_1, vn_k, nl_0, nl_1, nl_2, nl_3, nl_4, nl_5, nl_6, nl_7, nl_8, nl_9, nl_10, nl_11, nl_12, nl_13, nl_14, nl_15, nl_16, nl_20, nl_21, nl_22, nl_23, nl_24, nl_25, nl_26, nl_27, nl_28, nl_29, nl_30, nl_31, nl_32, nl_40, nl_41, nl_42, nl_43, nl_45, nl_47, nl_48, nl_50, nl_57, nl_59, nl_60, nl_61, nl_62, nl_63, nl_64, nl_91, nl_93, nl_94, nl_97, nl_98, nl_100, nl_110, nl_122, nl_130, nl_144, nl_160, nl_240, nl_241, nl_255, nl_256, nl_400, nl_800, nl_900, nl_999, nl_1000, nl_1001, nl_1024, nl_1103, nl_1928, nl_4321, nl_5560, nl_12345, nl_1000000, nl_1000003, nl_252645135, nl_858993459, nl_1431655765, nl_1000000000, nI_add, pk_mul, n_sub, n_neg, n_cl, leT, leF, ltT, ltF, eqT, eqF, kbT, s_II, s_In, s_IJ, s_IA, s_IL, s_IR, s_IC, s_JI, s_JJ, s_Jn, s_JA, s_JL, s_JR, s_JC, s_AI, s_AJ, s_AA, s_An, s_AL, s_AR, s_AC, s_LI, s_LJ, s_LA, s_LL, s_Ln, s_LR, s_LC, ll_0, ll_1, ll_2, ll_7, ll_8, ll_9, ll_10, ll_20, ll_23, ll_24, ll_26, ll_30, ll_32, ll_48, ll_96, ll_240, ll_256, ll_294, ll_498, ll_999, ll_1000, ll_1103, ll_1476, ll_12345, ll_14836, ll_65536, ll_1000000, ll_1000003, ll_1048576, ll_1000000000, e3, bT.2.1]
    refine ⟨_, ?_, fU (nI 0), bU (nI 0), by omega, ?_, ?_, ?_, ?_, ?_, ?_⟩
    · rw [flet _ 0 (s_II _ _ _) (by decide) (by decide), fend _ 0 (s_II _ _ _) (by decide) (by decide)]
    · simp (disch := omega) only [k_let, Option.bind_some, ↓reduceIte, eq_self, true_or, or_true, n01_0, n01_1, kb_or, kb_0T, kb_0F, vn_0, vn_1, vn_k, nl_0, nl_1, nl_2, nl_3, nl_4, nl_5, nl_6, nl_7, nl_8, nl_9, nl_10, nl_11, nl_12, nl_13, nl_14, nl_15, nl_16, nl_20, nl_21, nl_22, nl_23, nl_24, nl_25, nl_26, nl_27, nl_28, nl_29, nl_30, nl_31, nl_32, nl_40, nl_41, nl_42, nl_43, nl_45, nl_47, nl_48, nl_50, nl_57, nl_59, nl_60, nl_61, nl_62, nl_63, nl_64, nl_91, nl_93, nl_94, nl_97, nl_98, nl_100, nl_110, nl_122, nl_130, nl_144, nl_160, nl_240, nl_241, nl_255, nl_256, nl_400, nl_800, nl_900, nl_999, nl_1000, nl_1001, nl_1024, nl_1103, nl_1928, nl_4321, nl_5560, nl_12345, nl_1000000, nl_1000003, nl_252645135, nl_858993459, nl_1431655765, nl_1000000000, nI_add, pk_mul, n_sub, n_neg, n_cl, leT, leF, ltT, ltF, eqT, eqF, kbT, s_II, s_In, s_IJ, s_IA, s_IL, s_IR, s_IC, s_JI, s_JJ, s_Jn, s_JA, s_JL, s_JR, s_JC, s_AI, s_AJ, s_AA, s_An, s_AL, s_AR, s_AC, s_LI, s_LJ, s_LA, s_LL, s_Ln, s_LR, s_LC, e3]
    · rw [he]; simp (disch := omega) only [k_let, Option.bind_some, ↓reduceIte, eq_self, true_or, or_true, n01_0, n01_1, kb_or, kb_0T, kb_0F, vn_0, vn_1, vn_k, nl_0, nl_1, nl_2, nl_3, nl_4, nl_5, nl_6, nl_7, nl_8, nl_9, nl_10, nl_11, nl_12, nl_13, nl_14, nl_15, nl_16, nl_20, nl_21, nl_22, nl_23, nl_24, nl_25, nl_26, nl_27, nl_28, nl_29, nl_30, nl_31, nl_32, nl_40, nl_41, nl_42, nl_43, nl_45, nl_47, nl_48, nl_50, nl_57, nl_59, nl_60, nl_61, nl_62, nl_63, nl_64, nl_91, nl_93, nl_94, nl_97, nl_98, nl_100, nl_110, nl_122, nl_130, nl_144, nl_160, nl_240, nl_241, nl_255, nl_256, nl_400, nl_800, nl_900, nl_999, nl_1000, nl_1001, nl_1024, nl_1103, nl_1928, nl_4321, nl_5560, nl_12345, nl_1000000, nl_1000003, nl_252645135, nl_858993459, nl_1431655765, nl_1000000000, nI_add, pk_mul, n_sub, n_neg, n_cl, leT, leF, ltT, ltF, eqT, eqF, kbT, s_II, s_In, s_IJ, s_IA, s_IL, s_IR, s_IC, s_JI, s_JJ, s_Jn, s_JA, s_JL, s_JR, s_JC, s_AI, s_AJ, s_AA, s_An, s_AL, s_AR, s_AC, s_LI, s_LJ, s_LA, s_LL, s_Ln, s_LR, s_LC]
    · rw [hk]; exact s_II _ _ _
    · intro q; rw [hk] at q; cases q
    · intro q; rw [hk] at q; cases q
    · intro q; rw [hk] at q; cases q
theorem Mtk.next {t : Nat → Nat} {n a : Nat} {S : St} (h : Mtk t n a S) : ∃ T, f_X12_next S = some T ∧ Fr [37, 38, 39] [0] [] [] S T ∧ Mtk t n (tnx t n a) T :=
  e_next h.1 (en_le h.2.1).2 h.2.2.2.1
theorem en_sm {t : Nat → Nat} {n a : Nat} (h : kd t n a = 1) : ∀ j, a ≤ j → j < en t n a → 97 ≤ t j ∧ t j ≤ 122 := by
  intro j h1 h2
  have ha := kd_lt (t := t) (n := n) (a := a) (by omega)
  have c1 : smB (t a) = true := by
    unfold kd at h
    rw [if_neg (by omega)] at h
    by_cases q : smB (t a) = true
    · exact q
    · rw [if_neg q] at h
      split at h <;> omega
  have he : en t n a = rnk smB t (n - a) a := by unfold en; rw [if_neg (by omega), if_pos c1]
  rw [he] at h2
  have := rnk_all smB t (n - a) a j h1 h2
  rw [sm_iff] at this
  exact this
theorem e_isWord {t : Nat → Nat} {n a i : Nat} {S : St} (h : Mtk t n a S) (hi : i < 14) : f_X12_isWord (lZ (nvL.getD i 0)) S = some (kB (isW t n a i), S) := by
  have k4 := kd_4 t n a
  obtain ⟨b1, b2, b3, b4, b5, b6, b7, b8⟩ := h
  have he := en_le (t := t) b2
  unfold f_X12_isWord f_X12_isWord_21 f_X12_isWord_22
  rw [b5]
  by_cases c : kd t n a = 1
  · have key := ew_iff (i := i) hi c (en_sm c) he.1
    have hw : -9223372036854775808 ≤ wW t a (en t n a - a) ∧ wW t a (en t n a - a) < 9223372036854775808 := by
      unfold wW
      by_cases q : en t n a - a ≤ 10
      · rw [if_pos q]
        obtain ⟨x1, x2, -⟩ := ew_lo (l := rl t a (en t n a - a)) (fun x hx => by
          obtain ⟨j, c1, c2⟩ := rl_mem hx
          rw [c2]
          exact en_sm c _ (by omega) (by omega))
        rw [rl_len] at x2
        have : (32 : Int) ^ (en t n a - a) ≤ 32 ^ 10 := by
          have := Nat.pow_le_pow_right (n := 32) (by decide) q
          exact_mod_cast this
        have e10 : (32 : Int) ^ 10 = 1125899906842624 := by decide
        omega
      · rw [if_neg q]; omega
    have hv : ∀ i, i < 14 → -9223372036854775808 ≤ nvL.getD i 0 ∧ nvL.getD i 0 < 9223372036854775808 := by decide +kernel
    obtain ⟨v1, v2⟩ := hv i hi
    rw [if_pos (by rw [c]; rfl), b6 c]
    by_cases q : isW t n a i = true
    · rw [if_pos (by rw [L_eq hw.1 hw.2 v1 v2, key]; exact q), q]
      simp (disch := omega) only [k_let, Option.bind_some, ↓reduceIte, eq_self, true_or, or_true, n01_0, n01_1, kb_or, kb_0T, kb_0F, vn_0, vn_1, vn_k, nl_0, nl_1, nl_2, nl_3, nl_4, nl_5, nl_6, nl_7, nl_8, nl_9, nl_10, nl_11, nl_12, nl_13, nl_14, nl_15, nl_16, nl_20, nl_21, nl_22, nl_23, nl_24, nl_25, nl_26, nl_27, nl_28, nl_29, nl_30, nl_31, nl_32, nl_40, nl_41, nl_42, nl_43, nl_45, nl_47, nl_48, nl_50, nl_57, nl_59, nl_60, nl_61, nl_62, nl_63, nl_64, nl_91, nl_93, nl_94, nl_97, nl_98, nl_100, nl_110, nl_122, nl_130, nl_144, nl_160, nl_240, nl_241, nl_255, nl_256, nl_400, nl_800, nl_900, nl_999, nl_1000, nl_1001, nl_1024, nl_1103, nl_1928, nl_4321, nl_5560, nl_12345, nl_1000000, nl_1000003, nl_252645135, nl_858993459, nl_1431655765, nl_1000000000, nI_add, pk_mul, n_sub, n_neg, n_cl, leT, leF, ltT, ltF, eqT, eqF, kbT, s_II, s_In, s_IJ, s_IA, s_IL, s_IR, s_IC, s_JI, s_JJ, s_Jn, s_JA, s_JL, s_JR, s_JC, s_AI, s_AJ, s_AA, s_An, s_AL, s_AR, s_AC, s_LI, s_LJ, s_LA, s_LL, s_Ln, s_LR, s_LC, kB_t]
    · rw [if_neg (by rw [L_eq hw.1 hw.2 v1 v2, key]; exact q), Bool.eq_false_iff.mpr q]
      simp (disch := omega) only [k_let, Option.bind_some, ↓reduceIte, eq_self, true_or, or_true, n01_0, n01_1, kb_or, kb_0T, kb_0F, vn_0, vn_1, vn_k, nl_0, nl_1, nl_2, nl_3, nl_4, nl_5, nl_6, nl_7, nl_8, nl_9, nl_10, nl_11, nl_12, nl_13, nl_14, nl_15, nl_16, nl_20, nl_21, nl_22, nl_23, nl_24, nl_25, nl_26, nl_27, nl_28, nl_29, nl_30, nl_31, nl_32, nl_40, nl_41, nl_42, nl_43, nl_45, nl_47, nl_48, nl_50, nl_57, nl_59, nl_60, nl_61, nl_62, nl_63, nl_64, nl_91, nl_93, nl_94, nl_97, nl_98, nl_100, nl_110, nl_122, nl_130, nl_144, nl_160, nl_240, nl_241, nl_255, nl_256, nl_400, nl_800, nl_900, nl_999, nl_1000, nl_1001, nl_1024, nl_1103, nl_1928, nl_4321, nl_5560, nl_12345, nl_1000000, nl_1000003, nl_252645135, nl_858993459, nl_1431655765, nl_1000000000, nI_add, pk_mul, n_sub, n_neg, n_cl, leT, leF, ltT, ltF, eqT, eqF, kbT, s_II, s_In, s_IJ, s_IA, s_IL, s_IR, s_IC, s_JI, s_JJ, s_Jn, s_JA, s_JL, s_JR, s_JC, s_AI, s_AJ, s_AA, s_An, s_AL, s_AR, s_AC, s_LI, s_LJ, s_LA, s_LL, s_Ln, s_LR, s_LC, kB_f]
  · rw [if_neg (by rw [show (1 : Int32) = nI 1 from rfl, n_eq (by omega) (by decide)]; exact c)]
    have : isW t n a i = false := by unfold isW; rw [decide_eq_false (fun h => c h.1), Bool.false_and]
    rw [this]
    simp (disch := omega) only [k_let, Option.bind_some, ↓reduceIte, eq_self, true_or, or_true, n01_0, n01_1, kb_or, kb_0T, kb_0F, vn_0, vn_1, vn_k, nl_0, nl_1, nl_2, nl_3, nl_4, nl_5, nl_6, nl_7, nl_8, nl_9, nl_10, nl_11, nl_12, nl_13, nl_14, nl_15, nl_16, nl_20, nl_21, nl_22, nl_23, nl_24, nl_25, nl_26, nl_27, nl_28, nl_29, nl_30, nl_31, nl_32, nl_40, nl_41, nl_42, nl_43, nl_45, nl_47, nl_48, nl_50, nl_57, nl_59, nl_60, nl_61, nl_62, nl_63, nl_64, nl_91, nl_93, nl_94, nl_97, nl_98, nl_100, nl_110, nl_122, nl_130, nl_144, nl_160, nl_240, nl_241, nl_255, nl_256, nl_400, nl_800, nl_900, nl_999, nl_1000, nl_1001, nl_1024, nl_1103, nl_1928, nl_4321, nl_5560, nl_12345, nl_1000000, nl_1000003, nl_252645135, nl_858993459, nl_1431655765, nl_1000000000, nI_add, pk_mul, n_sub, n_neg, n_cl, leT, leF, ltT, ltF, eqT, eqF, kbT, s_II, s_In, s_IJ, s_IA, s_IL, s_IR, s_IC, s_JI, s_JJ, s_Jn, s_JA, s_JL, s_JR, s_JC, s_AI, s_AJ, s_AA, s_An, s_AL, s_AR, s_AC, s_LI, s_LJ, s_LA, s_LL, s_Ln, s_LR, s_LC, kB_f]
theorem e_isSign {t : Nat → Nat} {n a c : Nat} {S : St} (h : Mtk t n a S) (hc : c < 256) : f_X12_isSign (nI c) S = some (kB (isS t n a c), S) := by
  have k4 := kd_4 t n a
  obtain ⟨b1, b2, b3, b4, b5, b6, b7, b8⟩ := h
  unfold f_X12_isSign f_X12_isSign_22 f_X12_isSign_23 isS
  rw [b5]
  by_cases c1 : kd t n a = 3
  · have ha := kd_lt (t := t) (n := n) (a := a) (by omega)
    have := (b1.2.2 a ha).2
    rw [if_pos (by rw [c1]; rfl), b8 c1, L_n (by omega)]
    by_cases c2 : t a = c
    · rw [if_pos (by rw [c2]), decide_eq_true ⟨c1, c2⟩]
      simp (disch := omega) only [k_let, Option.bind_some, ↓reduceIte, eq_self, true_or, or_true, n01_0, n01_1, kb_or, kb_0T, kb_0F, vn_0, vn_1, vn_k, nl_0, nl_1, nl_2, nl_3, nl_4, nl_5, nl_6, nl_7, nl_8, nl_9, nl_10, nl_11, nl_12, nl_13, nl_14, nl_15, nl_16, nl_20, nl_21, nl_22, nl_23, nl_24, nl_25, nl_26, nl_27, nl_28, nl_29, nl_30, nl_31, nl_32, nl_40, nl_41, nl_42, nl_43, nl_45, nl_47, nl_48, nl_50, nl_57, nl_59, nl_60, nl_61, nl_62, nl_63, nl_64, nl_91, nl_93, nl_94, nl_97, nl_98, nl_100, nl_110, nl_122, nl_130, nl_144, nl_160, nl_240, nl_241, nl_255, nl_256, nl_400, nl_800, nl_900, nl_999, nl_1000, nl_1001, nl_1024, nl_1103, nl_1928, nl_4321, nl_5560, nl_12345, nl_1000000, nl_1000003, nl_252645135, nl_858993459, nl_1431655765, nl_1000000000, nI_add, pk_mul, n_sub, n_neg, n_cl, leT, leF, ltT, ltF, eqT, eqF, kbT, s_II, s_In, s_IJ, s_IA, s_IL, s_IR, s_IC, s_JI, s_JJ, s_Jn, s_JA, s_JL, s_JR, s_JC, s_AI, s_AJ, s_AA, s_An, s_AL, s_AR, s_AC, s_LI, s_LJ, s_LA, s_LL, s_Ln, s_LR, s_LC, kB_t]
    · rw [if_neg (by rw [L_eq (by omega) (by omega) (by omega) (by omega)]; omega), decide_eq_false (fun h => c2 h.2)]
      simp (disch := omega) only [k_let, Option.bind_some, ↓reduceIte, eq_self, true_or, or_true, n01_0, n01_1, kb_or, kb_0T, kb_0F, vn_0, vn_1, vn_k, nl_0, nl_1, nl_2, nl_3, nl_4, nl_5, nl_6, nl_7, nl_8, nl_9, nl_10, nl_11, nl_12, nl_13, nl_14, nl_15, nl_16, nl_20, nl_21, nl_22, nl_23, nl_24, nl_25, nl_26, nl_27, nl_28, nl_29, nl_30, nl_31, nl_32, nl_40, nl_41, nl_42, nl_43, nl_45, nl_47, nl_48, nl_50, nl_57, nl_59, nl_60, nl_61, nl_62, nl_63, nl_64, nl_91, nl_93, nl_94, nl_97, nl_98, nl_100, nl_110, nl_122, nl_130, nl_144, nl_160, nl_240, nl_241, nl_255, nl_256, nl_400, nl_800, nl_900, nl_999, nl_1000, nl_1001, nl_1024, nl_1103, nl_1928, nl_4321, nl_5560, nl_12345, nl_1000000, nl_1000003, nl_252645135, nl_858993459, nl_1431655765, nl_1000000000, nI_add, pk_mul, n_sub, n_neg, n_cl, leT, leF, ltT, ltF, eqT, eqF, kbT, s_II, s_In, s_IJ, s_IA, s_IL, s_IR, s_IC, s_JI, s_JJ, s_Jn, s_JA, s_JL, s_JR, s_JC, s_AI, s_AJ, s_AA, s_An, s_AL, s_AR, s_AC, s_LI, s_LJ, s_LA, s_LL, s_Ln, s_LR, s_LC, kB_f]
  · rw [if_neg (by rw [show (3 : Int32) = nI 3 from rfl, n_eq (by omega) (by decide)]; exact c1), decide_eq_false (fun h => c1 h.1)]
    simp (disch := omega) only [k_let, Option.bind_some, ↓reduceIte, eq_self, true_or, or_true, n01_0, n01_1, kb_or, kb_0T, kb_0F, vn_0, vn_1, vn_k, nl_0, nl_1, nl_2, nl_3, nl_4, nl_5, nl_6, nl_7, nl_8, nl_9, nl_10, nl_11, nl_12, nl_13, nl_14, nl_15, nl_16, nl_20, nl_21, nl_22, nl_23, nl_24, nl_25, nl_26, nl_27, nl_28, nl_29, nl_30, nl_31, nl_32, nl_40, nl_41, nl_42, nl_43, nl_45, nl_47, nl_48, nl_50, nl_57, nl_59, nl_60, nl_61, nl_62, nl_63, nl_64, nl_91, nl_93, nl_94, nl_97, nl_98, nl_100, nl_110, nl_122, nl_130, nl_144, nl_160, nl_240, nl_241, nl_255, nl_256, nl_400, nl_800, nl_900, nl_999, nl_1000, nl_1001, nl_1024, nl_1103, nl_1928, nl_4321, nl_5560, nl_12345, nl_1000000, nl_1000003, nl_252645135, nl_858993459, nl_1431655765, nl_1000000000, nI_add, pk_mul, n_sub, n_neg, n_cl, leT, leF, ltT, ltF, eqT, eqF, kbT, s_II, s_In, s_IJ, s_IA, s_IL, s_IR, s_IC, s_JI, s_JJ, s_Jn, s_JA, s_JL, s_JR, s_JC, s_AI, s_AJ, s_AA, s_An, s_AL, s_AR, s_AC, s_LI, s_LJ, s_LA, s_LL, s_Ln, s_LR, s_LC, kB_f]
theorem e_mustT {t : Nat → Nat} {n a : Nat} {S : St} (h : Mtk t n a S) (h41 : gI S 41 = nI 0) : ∃ T, f_X12_must (nI 1) S = some T ∧ Fr [37, 38, 39] [0] [] [] S T ∧ Mtk t n (tnx t n a) T := by
  obtain ⟨T, e1, e2, e3⟩ := h.next
  refine ⟨T, ?_, e2, e3⟩
  unfold f_X12_must f_X12_must_24 f_X12_must_35
  simp (disch := omega) only [k_let, Option.bind_some, ↓reduceIte, eq_self, true_or, or_true, n01_0, n01_1, kb_or, kb_0T, kb_0F, vn_0, vn_1, vn_k, nl_0, nl_1, nl_2, nl_3, nl_4, nl_5, nl_6, nl_7, nl_8, nl_9, nl_10, nl_11, nl_12, nl_13, nl_14, nl_15, nl_16, nl_20, nl_21, nl_22, nl_23, nl_24, nl_25, nl_26, nl_27, nl_28, nl_29, nl_30, nl_31, nl_32, nl_40, nl_41, nl_42, nl_43, nl_45, nl_47, nl_48, nl_50, nl_57, nl_59, nl_60, nl_61, nl_62, nl_63, nl_64, nl_91, nl_93, nl_94, nl_97, nl_98, nl_100, nl_110, nl_122, nl_130, nl_144, nl_160, nl_240, nl_241, nl_255, nl_256, nl_400, nl_800, nl_900, nl_999, nl_1000, nl_1001, nl_1024, nl_1103, nl_1928, nl_4321, nl_5560, nl_12345, nl_1000000, nl_1000003, nl_252645135, nl_858993459, nl_1431655765, nl_1000000000, nI_add, pk_mul, n_sub, n_neg, n_cl, leT, leF, ltT, ltF, eqT, eqF, kbT, s_II, s_In, s_IJ, s_IA, s_IL, s_IR, s_IC, s_JI, s_JJ, s_Jn, s_JA, s_JL, s_JR, s_JC, s_AI, s_AJ, s_AA, s_An, s_AL, s_AR, s_AC, s_LI, s_LJ, s_LA, s_LL, s_Ln, s_LR, s_LC, h41, e1]
theorem e_mustF {t : Nat → Nat} {n a : Nat} {S : St} (h : Mtk t n a S) (h41 : gI S 41 = nI 0) : ∃ T, f_X12_must (nI 0) S = some T ∧ Fr [40, 41] [] [] [] S T ∧ gI T 41 = nI 1 ∧ gI T 40 = nI a := by
  refine ⟨sI (sI S 41 (nI 1)) 40 (nI a), ?_, ((Fr.refl S).sI rfl _).sI rfl _, (s_In (by decide)).trans (s_II _ _ _), s_II _ _ _⟩
  unfold f_X12_must f_X12_must_24 f_X12_must_35
  simp (disch := omega) only [k_let, Option.bind_some, ↓reduceIte, eq_self, true_or, or_true, n01_0, n01_1, kb_or, kb_0T, kb_0F, vn_0, vn_1, vn_k, nl_0, nl_1, nl_2, nl_3, nl_4, nl_5, nl_6, nl_7, nl_8, nl_9, nl_10, nl_11, nl_12, nl_13, nl_14, nl_15, nl_16, nl_20, nl_21, nl_22, nl_23, nl_24, nl_25, nl_26, nl_27, nl_28, nl_29, nl_30, nl_31, nl_32, nl_40, nl_41, nl_42, nl_43, nl_45, nl_47, nl_48, nl_50, nl_57, nl_59, nl_60, nl_61, nl_62, nl_63, nl_64, nl_91, nl_93, nl_94, nl_97, nl_98, nl_100, nl_110, nl_122, nl_130, nl_144, nl_160, nl_240, nl_241, nl_255, nl_256, nl_400, nl_800, nl_900, nl_999, nl_1000, nl_1001, nl_1024, nl_1103, nl_1928, nl_4321, nl_5560, nl_12345, nl_1000000, nl_1000003, nl_252645135, nl_858993459, nl_1431655765, nl_1000000000, nI_add, pk_mul, n_sub, n_neg, n_cl, leT, leF, ltT, ltF, eqT, eqF, kbT, s_II, s_In, s_IJ, s_IA, s_IL, s_IR, s_IC, s_JI, s_JJ, s_Jn, s_JA, s_JL, s_JR, s_JC, s_AI, s_AJ, s_AA, s_An, s_AL, s_AR, s_AC, s_LI, s_LJ, s_LA, s_LL, s_Ln, s_LR, s_LC, h41, h.2.2.1]
