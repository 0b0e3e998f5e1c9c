/-! part 75: left -/
def ctN (N : Nat → Int) (s : Nat) : Int := smZ (fun i => if s.testBit i = true then N i else 0) 8
def mxK (g : Nat → Int) (s : Nat) : Nat → Int
  | 0 => 0
  | k + 1 => if s.testBit k = true then max (mxK g s k) (g (an s (2 ^ k))) else mxK g s k
def indN (N : Nat → Int) (C s : Nat) : Int := if s ≠ 0 ∧ s &&& C = s ∧ ctN N s = 0 then 1 else 0
/-- how many groups a set can be cut into -/
def grF (N : Nat → Int) (C : Nat) : Nat → Nat → Int
  | 0, _ => 0
  | n + 1, s => mxK (grF N C n) s 8 + indN N C s
theorem mxK_congr {g g' : Nat → Int} {s : Nat} : ∀ {m : Nat}, (∀ k, k < m → s.testBit k = true → g (an s (2 ^ k)) = g' (an s (2 ^ k))) → mxK g s m = mxK g' s m := by
  intro m
  induction m with
  | zero => intro _; rfl
  | succ m ih =>
    intro h
    show (if s.testBit m = true then max (mxK g s m) (g (an s (2 ^ m))) else mxK g s m) = (if s.testBit m = true then max (mxK g' s m) (g' (an s (2 ^ m))) else mxK g' s m)
    rw [ih (fun k hk => h k (by omega))]
    by_cases c : s.testBit m = true
    · rw [if_pos c, if_pos c, h m (by omega) c]
    · rw [if_neg c, if_neg c]
theorem grF_st (N : Nat → Int) (C : Nat) : ∀ (s n m : Nat), s < n → s < m → grF N C n s = grF N C m s := by
  intro s
  induction s using Nat.strongRecOn with
  | ind s ih =>
    intro n m hn hm
    obtain ⟨n, rfl⟩ : ∃ j, n = j + 1 := ⟨n - 1, by omega⟩
    obtain ⟨m, rfl⟩ : ∃ j, m = j + 1 := ⟨m - 1, by omega⟩
    show mxK (grF N C n) s 8 + _ = mxK (grF N C m) s 8 + _
    rw [mxK_congr (fun k _ hk => ih _ (an_lt hk) n m (by have := an_lt hk; omega) (by have := an_lt hk; omega))]
def gr (N : Nat → Int) (C s : Nat) : Int := grF N C (s + 1) s
theorem gr_eq (N : Nat → Int) (C s : Nat) : gr N C s = mxK (gr N C) s 8 + indN N C s := by
  show mxK (grF N C s) s 8 + indN N C s = _
  rw [mxK_congr (g' := gr N C) (fun k _ hk => grF_st N C _ s (an s (2 ^ k) + 1) (an_lt hk) (by omega))]
theorem indN_bd (N : Nat → Int) (C s : Nat) : 0 ≤ indN N C s ∧ indN N C s ≤ 1 := by
  unfold indN
  by_cases c : s ≠ 0 ∧ s &&& C = s ∧ ctN N s = 0
  · rw [if_pos c]; omega
  · rw [if_neg c]; omega
theorem mxK_bd {g : Nat → Int} {s : Nat} (h : ∀ k, s.testBit k = true → 0 ≤ g (an s (2 ^ k)) ∧ g (an s (2 ^ k)) + 1 ≤ s) : ∀ m, 0 ≤ mxK g s m ∧ (mxK g s m = 0 ∨ mxK g s m + 1 ≤ s) := by
  intro m
  induction m with
  | zero => exact ⟨Int.le_refl _, Or.inl rfl⟩
  | succ m ih =>
    have e : mxK g s (m + 1) = if s.testBit m = true then max (mxK g s m) (g (an s (2 ^ m))) else mxK g s m := rfl
    rw [e]
    by_cases c : s.testBit m = true
    · rw [if_pos c]
      have := h m c
      omega
    · rw [if_neg c]; exact ih
theorem gr_bd (N : Nat → Int) (C : Nat) : ∀ s : Nat, 0 ≤ gr N C s ∧ gr N C s ≤ s := by
  intro s
  induction s using Nat.strongRecOn with
  | ind s ih =>
    have h1 := mxK_bd (g := gr N C) (s := s) (fun k hk => by
      have := ih _ (an_lt hk)
      have := an_lt hk
      omega) 8
    have h2 := indN_bd N C s
    rw [gr_eq]
    by_cases c : s = 0
    · have : indN N C s = 0 := by unfold indN; rw [if_neg (fun q => q.1 c)]
      omega
    · omega
theorem gr_mx {N : Nat → Int} {C s : Nat} (hs : s < 256) (m : Nat) : 0 ≤ mxK (gr N C) s m ∧ mxK (gr N C) s m ≤ 256 := by
  have := mxK_bd (g := gr N C) (s := s) (fun k hk => by
    have := gr_bd N C (an s (2 ^ k))
    have := an_lt hk
    omega) m
  omega
theorem ctN_bd {N : Nat → Int} (hN : ∀ k, k < 8 → -200 ≤ N k ∧ N k ≤ 200) (s : Nat) {m : Nat} (hm : m ≤ 8) : -1600 ≤ smZ (fun i => if s.testBit i = true then N i else 0) m ∧ smZ (fun i => if s.testBit i = true then N i else 0) m ≤ 1600 := by
  have := smZ_bd (f := fun i => if s.testBit i = true then N i else 0) (b := 200) (n := m) (fun d hd => by
    have := hN d (by omega)
    show -((200 : Nat) : Int) ≤ (if s.testBit d = true then N d else 0) ∧ (if s.testBit d = true then N d else 0) ≤ (200 : Nat)
    by_cases c : s.testBit d = true
    · rw [if_pos c]; omega
    · rw [if_neg c]; omega)
  omega
theorem ctN_an {N : Nat → Int} {s k : Nat} (hk : k < 8) (h : s.testBit k = true) : ctN N (an s (2 ^ k)) + N k = ctN N s := by
  have := n_sum N s h 8
  rw [if_pos hk] at this
  exact this
theorem iZ_max {a b : Int} (a1 : -2147483648 ≤ a) (a2 : a < 2147483648) (b1 : -2147483648 ≤ b) (b2 : b < 2147483648) : (if iZ a < iZ b then iZ b else iZ a) = iZ (max a b) := by
  by_cases c : a < b
  · simp (disch := omega) only [zleT, zleF, zltT, zltF, zeqT, zeqF, nzleT, nzleF, nzltT, nzltF, nzeqT, nzeqF, znleT, znleF, znltT, znltF, zneqT, zneqF, ↓reduceIte] <;> (congr 1; omega)
  · simp (disch := omega) only [zleT, zleF, zltT, zltF, zeqT, zeqF, nzleT, nzleF, nzltT, nzltF, nzeqT, nzeqF, znleT, znleF, znltT, znltF, zneqT, zneqF, ↓reduceIte] <;> (congr 1; omega)
/-! the class's groups -/
def lsK (N : Nat → Int) (s : Nat) : Nat → Int
  | 0 => 0
  | k + 1 => if s.testBit k = true then ctN N s else lsK N s k
theorem lsK_bit {N : Nat → Int} {s i : Nat} (hi : s.testBit i = true) : ∀ {m : Nat}, i < m → lsK N s m = ctN N s := by
  intro m
  induction m with
  | zero => intro h; exact absurd h (Nat.not_lt_zero _)
  | succ m ih =>
    intro h
    show (if s.testBit m = true then ctN N s else lsK N s m) = _
    by_cases c : s.testBit m = true
    · rw [if_pos c]
    · rw [if_neg c]
      refine ih ?_
      have : i ≠ m := fun e => c (e ▸ hi)
      omega
theorem ex_bit {s m : Nat} (hs : s < 2 ^ m) (h : s ≠ 0) : ∃ i, i < m ∧ s.testBit i = true := by
  apply Classical.byContradiction
  intro q
  refine h (tb_ext (m := m) hs (Nat.two_pow_pos m) (fun i hi => ?_))
  rw [Nat.zero_testBit]
  cases z : s.testBit i with
  | false => rfl
  | true => exact absurd ⟨i, hi, z⟩ q
/-- the tables of the sets below n -/
def GtC (N : Nat → Int) (C : Nat) (U : St) (n : Nat) : Prop := ∀ s, s < n → s &&& C = s → gA U 27 s = iZ (ctN N s) ∧ gA U 28 s = iZ (gr N C s)
theorem l_group {N : Nat → Int} {C s : Nat} {U : St} (hN : ∀ k, k < 8 → -200 ≤ N k ∧ N k ≤ 200) (h26 : ∀ k, k < 8 → gA U 26 k = iZ (N k)) (hs : s < 256) (h0 : s ≠ 0) (hC : s &&& C = s) (hG : GtC N C U s) : ∀ (m f k : Nat), k + m = 8 → m < f →
    f_X4_group_7 f (nI s) (iZ (mxK (gr N C) s k)) (iZ (lsK N s k)) (nI k) U = some (sA (sA U 27 s (iZ (ctN N s))) 28 s (iZ (gr N C s))) := by
  intro m
  induction m with
  | zero =>
    intro f k hk hf
    obtain ⟨f, rfl⟩ : ∃ g, f = g + 1 := ⟨f - 1, by omega⟩
    have : k = 8 := by omega
    subst this
    obtain ⟨i, hi, hb⟩ := ex_bit (m := 8) hs h0
    have hm := gr_mx (N := N) (C := C) hs 8
    have hc := ctN_bd hN s (m := 8) (Nat.le_refl _)
    change -1600 ≤ ctN N s ∧ ctN N s ≤ 1600 at hc
    rw [f_X4_group_7, lsK_bit hb hi, gr_eq]
    by_cases z : ctN N s = 0
    · have ei : indN N C s = 1 := if_pos ⟨h0, hC, z⟩
      rw [ei, z]
      simp (disch := omega) only [k_let, Option.bind_some, ↓reduceIte, eq_self, true_or, or_true, n01_0, n01_1, kb_or, kb_0T, kb_0F, vn_0, vn_1, vn_k, nl_0, nl_1, nl_2, nl_3, nl_4, nl_5, nl_6, nl_7, nl_8, nl_9, nl_10, nl_11, nl_12, nl_13, nl_14, nl_15, nl_16, nl_20, nl_21, nl_22, nl_23, nl_24, nl_25, nl_26, nl_27, nl_28, nl_29, nl_30, nl_31, nl_32, nl_40, nl_41, nl_42, nl_43, nl_45, nl_47, nl_48, nl_50, nl_57, nl_59, nl_60, nl_61, nl_62, nl_63, nl_64, nl_91, nl_93, nl_94, nl_97, nl_98, nl_100, nl_110, nl_122, nl_130, nl_144, nl_160, nl_240, nl_241, nl_255, nl_256, nl_400, nl_800, nl_900, nl_999, nl_1000, nl_1001, nl_1024, nl_1103, nl_1928, nl_4321, nl_5560, nl_12345, nl_1000000, nl_1000003, nl_252645135, nl_858993459, nl_1431655765, nl_1000000000, nI_add, pk_mul, n_sub, n_neg, n_cl, leT, leF, ltT, ltF, eqT, eqF, kbT, s_II, s_In, s_IJ, s_IA, s_IL, s_IR, s_IC, s_JI, s_JJ, s_Jn, s_JA, s_JL, s_JR, s_JC, s_AI, s_AJ, s_AA, s_An, s_AL, s_AR, s_AC, s_LI, s_LJ, s_LA, s_LL, s_Ln, s_LR, s_LC, zleT, zleF, zltT, zltF, zeqT, zeqF, nzleT, nzleF, nzltT, nzltF, nzeqT, nzeqF, znleT, znleF, znltT, znltF, zneqT, zneqF, z_add, z_sub, z_mul, z_neg, z_an, z_na, z_sn, z_ns, z_mn, z_nm, f_X4_group_87]
      rfl
    · have ei : indN N C s = 0 := if_neg (fun q => z q.2.2)
      rw [ei]
      simp (disch := omega) only [k_let, Option.bind_some, ↓reduceIte, eq_self, true_or, or_true, n01_0, n01_1, kb_or, kb_0T, kb_0F, vn_0, vn_1, vn_k, nl_0, nl_1, nl_2, nl_3, nl_4, nl_5, nl_6, nl_7, nl_8, nl_9, nl_10, nl_11, nl_12, nl_13, nl_14, nl_15, nl_16, nl_20, nl_21, nl_22, nl_23, nl_24, nl_25, nl_26, nl_27, nl_28, nl_29, nl_30, nl_31, nl_32, nl_40, nl_41, nl_42, nl_43, nl_45, nl_47, nl_48, nl_50, nl_57, nl_59, nl_60, nl_61, nl_62, nl_63, nl_64, nl_91, nl_93, nl_94, nl_97, nl_98, nl_100, nl_110, nl_122, nl_130, nl_144, nl_160, nl_240, nl_241, nl_255, nl_256, nl_400, nl_800, nl_900, nl_999, nl_1000, nl_1001, nl_1024, nl_1103, nl_1928, nl_4321, nl_5560, nl_12345, nl_1000000, nl_1000003, nl_252645135, nl_858993459, nl_1431655765, nl_1000000000, nI_add, pk_mul, n_sub, n_neg, n_cl, leT, leF, ltT, ltF, eqT, eqF, kbT, s_II, s_In, s_IJ, s_IA, s_IL, s_IR, s_IC, s_JI, s_JJ, s_Jn, s_JA, s_JL, s_JR, s_JC, s_AI, s_AJ, s_AA, s_An, s_AL, s_AR, s_AC, s_LI, s_LJ, s_LA, s_LL, s_Ln, s_LR, s_LC, zleT, zleF, zltT, zltF, zeqT, zeqF, nzleT, nzleF, nzltT, nzltF, nzeqT, nzeqF, znleT, znleF, znltT, znltF, zneqT, zneqF, z_add, z_sub, z_mul, z_neg, z_an, z_na, z_sn, z_ns, z_mn, z_nm, f_X4_group_87, Int.add_zero]
  | succ m ih =>
    intro f k hk hf
    obtain ⟨f, rfl⟩ : ∃ g, f = g + 1 := ⟨f - 1, by omega⟩
    have hk8 : k < 8 := by omega
    have hm := gr_mx (N := N) (C := C) hs k
    have ean : nI s &&& (nI (2 ^ k) ^^^ iZ (-((1 : Nat) : Int))) = nI (an s (2 ^ k)) := n_an (by omega)
    have hle := an_le s (2 ^ k)
    rw [← ih f (k + 1) (by omega) (by omega), f_X4_group_7]
    by_cases c : s.testBit k = true
    · have hlt := an_lt c
      obtain ⟨g1, g2⟩ := hG _ hlt (an_sub hC)
      have hgb := gr_bd N C (an s (2 ^ k))
      have e1 : mxK (gr N C) s (k + 1) = max (mxK (gr N C) s k) (gr N C (an s (2 ^ k))) := if_pos c
      have e2 : lsK N s (k + 1) = ctN N s := if_pos c
      have e3 := ctN_an (N := N) hk8 c
      have e4 := iZ_max (a := mxK (gr N C) s k) (b := gr N C (an s (2 ^ k))) (by omega) (by omega) (by omega) (by omega)
      rw [e1, e2]
      simp (disch := omega) only [k_let, Option.bind_some, ↓reduceIte, eq_self, true_or, or_true, n01_0, n01_1, kb_or, kb_0T, kb_0F, vn_0, vn_1, vn_k, nl_0, nl_1, nl_2, nl_3, nl_4, nl_5, nl_6, nl_7, nl_8, nl_9, nl_10, nl_11, nl_12, nl_13, nl_14, nl_15, nl_16, nl_20, nl_21, nl_22, nl_23, nl_24, nl_25, nl_26, nl_27, nl_28, nl_29, nl_30, nl_31, nl_32, nl_40, nl_41, nl_42, nl_43, nl_45, nl_47, nl_48, nl_50, nl_57, nl_59, nl_60, nl_61, nl_62, nl_63, nl_64, nl_91, nl_93, nl_94, nl_97, nl_98, nl_100, nl_110, nl_122, nl_130, nl_144, nl_160, nl_240, nl_241, nl_255, nl_256, nl_400, nl_800, nl_900, nl_999, nl_1000, nl_1001, nl_1024, nl_1103, nl_1928, nl_4321, nl_5560, nl_12345, nl_1000000, nl_1000003, nl_252645135, nl_858993459, nl_1431655765, nl_1000000000, nI_add, pk_mul, n_sub, n_neg, n_cl, leT, leF, ltT, ltF, eqT, eqF, kbT, s_II, s_In, s_IJ, s_IA, s_IL, s_IR, s_IC, s_JI, s_JJ, s_Jn, s_JA, s_JL, s_JR, s_JC, s_AI, s_AJ, s_AA, s_An, s_AL, s_AR, s_AC, s_LI, s_LJ, s_LA, s_LL, s_Ln, s_LR, s_LC, zleT, zleF, zltT, zltF, zeqT, zeqF, nzleT, nzleF, nzltT, nzltF, nzeqT, nzeqF, znleT, znleF, znltT, znltF, zneqT, zneqF, z_add, z_sub, z_mul, z_neg, z_an, z_na, z_sn, z_ns, z_mn, z_nm, n_shl1, ean, f_X4_group_58, g1, g2, h26 k hk8, e3, e4]
    · have e0 := an_eq (Bool.not_eq_true _ ▸ c)
      have e1 : mxK (gr N C) s (k + 1) = mxK (gr N C) s k := if_neg c
      have e2 : lsK N s (k + 1) = lsK N s k := if_neg c
      rw [e1, e2]
      simp (disch := omega) only [k_let, Option.bind_some, ↓reduceIte, eq_self, true_or, or_true, n01_0, n01_1, kb_or, kb_0T, kb_0F, vn_0, vn_1, vn_k, nl_0, nl_1, nl_2, nl_3, nl_4, nl_5, nl_6, nl_7, nl_8, nl_9, nl_10, nl_11, nl_12, nl_13, nl_14, nl_15, nl_16, nl_20, nl_21, nl_22, nl_23, nl_24, nl_25, nl_26, nl_27, nl_28, nl_29, nl_30, nl_31, nl_32, nl_40, nl_41, nl_42, nl_43, nl_45, nl_47, nl_48, nl_50, nl_57, nl_59, nl_60, nl_61, nl_62, nl_63, nl_64, nl_91, nl_93, nl_94, nl_97, nl_98, nl_100, nl_110, nl_122, nl_130, nl_144, nl_160, nl_240, nl_241, nl_255, nl_256, nl_400, nl_800, nl_900, nl_999, nl_1000, nl_1001, nl_1024, nl_1103, nl_1928, nl_4321, nl_5560, nl_12345, nl_1000000, nl_1000003, nl_252645135, nl_858993459, nl_1431655765, nl_1000000000, nI_add, pk_mul, n_sub, n_neg, n_cl, leT, leF, ltT, ltF, eqT, eqF, kbT, s_II, s_In, s_IJ, s_IA, s_IL, s_IR, s_IC, s_JI, s_JJ, s_Jn, s_JA, s_JL, s_JR, s_JC, s_AI, s_AJ, s_AA, s_An, s_AL, s_AR, s_AC, s_LI, s_LJ, s_LA, s_LL, s_Ln, s_LR, s_LC, n_shl1, ean, e0, f_X4_group_58]
theorem e_group {N : Nat → Int} {C s : Nat} {U : St} (hN : ∀ k, k < 8 → -200 ≤ N k ∧ N k ≤ 200) (h26 : ∀ k, k < 8 → gA U 26 k = iZ (N k)) (hs : s < 256) (h0 : s ≠ 0) (hC : s &&& C = s) (hG : GtC N C U s) : f_X4_group (nI s) U = some (sA (sA U 27 s (iZ (ctN N s))) 28 s (iZ (gr N C s))) := by
  have := l_group hN h26 hs h0 hC hG 8 FU 0 (by decide) (FU_ge (by decide))
  unfold f_X4_group
  exact this
theorem l_few47 {N : Nat → Int} {C : Nat} {S : St} (hN : ∀ k, k < 8 → -200 ≤ N k ∧ N k ≤ 200) (hC8 : C < 256) : ∀ (m f s : Nat) (U : St), s + m = C + 1 → m < f → 0 < s → (∀ k, k < 8 → gA U 26 k = iZ (N k)) → Fr [] [] [27, 28] [] S U → GtC N C U s →
    ∃ W, f_X4_fewestPayments_47 f (nI C) (nI s) U = some (iZ ((pc16 C : Int) - gr N C C), W) ∧ Fr [] [] [27, 28] [] S W := by
  intro m
  induction m with
  | zero =>
    intro f s U hs hf h0 h26 hF hG
    obtain ⟨f, rfl⟩ : ∃ g, f = g + 1 := ⟨f - 1, by omega⟩
    have : s = C + 1 := by omega
    subst this
    have g2 := (hG C (by omega) (by rw [Nat.and_self])).2
    refine ⟨U, ?_, hF⟩
    rw [f_X4_fewestPayments_47, f_X4_fewestPayments_79]
    simp (disch := omega) only [k_let, Option.bind_some, ↓reduceIte, eq_self, true_or, or_true, n01_0, n01_1, kb_or, kb_0T, kb_0F, vn_0, vn_1, vn_k, nl_0, nl_1, nl_2, nl_3, nl_4, nl_5, nl_6, nl_7, nl_8, nl_9, nl_10, nl_11, nl_12, nl_13, nl_14, nl_15, nl_16, nl_20, nl_21, nl_22, nl_23, nl_24, nl_25, nl_26, nl_27, nl_28, nl_29, nl_30, nl_31, nl_32, nl_40, nl_41, nl_42, nl_43, nl_45, nl_47, nl_48, nl_50, nl_57, nl_59, nl_60, nl_61, nl_62, nl_63, nl_64, nl_91, nl_93, nl_94, nl_97, nl_98, nl_100, nl_110, nl_122, nl_130, nl_144, nl_160, nl_240, nl_241, nl_255, nl_256, nl_400, nl_800, nl_900, nl_999, nl_1000, nl_1001, nl_1024, nl_1103, nl_1928, nl_4321, nl_5560, nl_12345, nl_1000000, nl_1000003, nl_252645135, nl_858993459, nl_1431655765, nl_1000000000, nI_add, pk_mul, n_sub, n_neg, n_cl, leT, leF, ltT, ltF, eqT, eqF, kbT, s_II, s_In, s_IJ, s_IA, s_IL, s_IR, s_IC, s_JI, s_JJ, s_Jn, s_JA, s_JL, s_JR, s_JC, s_AI, s_AJ, s_AA, s_An, s_AL, s_AR, s_AC, s_LI, s_LJ, s_LA, s_LL, s_Ln, s_LR, s_LC, zleT, zleF, zltT, zltF, zeqT, zeqF, nzleT, nzleF, nzltT, nzltF, nzeqT, nzeqF, znleT, znleF, znltT, znltF, zneqT, zneqF, z_add, z_sub, z_mul, z_neg, z_an, z_na, z_sn, z_ns, z_mn, z_nm, ↓b_of (bitc C hC8 U), g2]
  | succ m ih =>
    intro f s U hs hf h0 h26 hF hG
    obtain ⟨f, rfl⟩ : ∃ g, f = g + 1 := ⟨f - 1, by omega⟩
    have b1 : s &&& C ≤ s := Nat.and_le_left
    by_cases c : s &&& C = s
    · have eg := e_group hN h26 (show s < 256 by omega) (by omega) c hG
      have e : f_X4_fewestPayments_47 (f + 1) (nI C) (nI s) U = f_X4_fewestPayments_47 f (nI C) (nI (s + 1)) (sA (sA U 27 s (iZ (ctN N s))) 28 s (iZ (gr N C s))) := by
        rw [f_X4_fewestPayments_47]
        simp (disch := omega) only [k_let, Option.bind_some, ↓reduceIte, eq_self, true_or, or_true, n01_0, n01_1, kb_or, kb_0T, kb_0F, vn_0, vn_1, vn_k, nl_0, nl_1, nl_2, nl_3, nl_4, nl_5, nl_6, nl_7, nl_8, nl_9, nl_10, nl_11, nl_12, nl_13, nl_14, nl_15, nl_16, nl_20, nl_21, nl_22, nl_23, nl_24, nl_25, nl_26, nl_27, nl_28, nl_29, nl_30, nl_31, nl_32, nl_40, nl_41, nl_42, nl_43, nl_45, nl_47, nl_48, nl_50, nl_57, nl_59, nl_60, nl_61, nl_62, nl_63, nl_64, nl_91, nl_93, nl_94, nl_97, nl_98, nl_100, nl_110, nl_122, nl_130, nl_144, nl_160, nl_240, nl_241, nl_255, nl_256, nl_400, nl_800, nl_900, nl_999, nl_1000, nl_1001, nl_1024, nl_1103, nl_1928, nl_4321, nl_5560, nl_12345, nl_1000000, nl_1000003, nl_252645135, nl_858993459, nl_1431655765, nl_1000000000, nI_add, pk_mul, n_sub, n_neg, n_cl, leT, leF, ltT, ltF, eqT, eqF, kbT, s_II, s_In, s_IJ, s_IA, s_IL, s_IR, s_IC, s_JI, s_JJ, s_Jn, s_JA, s_JL, s_JR, s_JC, s_AI, s_AJ, s_AA, s_An, s_AL, s_AR, s_AC, s_LI, s_LJ, s_LA, s_LL, s_Ln, s_LR, s_LC, n_and, c, ↓b_of eg, f_X4_fewestPayments_73]
      rw [e]
      refine ih f (s + 1) _ (by omega) (by omega) (by omega) h26 ((hF.sA rfl _ _).sA rfl _ _) (fun s' hs' hc' => ?_)
      rw [s_An (by decide), s_AA, s_AA, s_An (by decide), u_a, u_a]
      by_cases q : s' = s
      · rw [if_pos q, if_pos q, q]; exact ⟨rfl, rfl⟩
      · rw [if_neg q, if_neg q]; exact hG s' (by omega) hc'
    · have e : f_X4_fewestPayments_47 (f + 1) (nI C) (nI s) U = f_X4_fewestPayments_47 f (nI C) (nI (s + 1)) U := by
        rw [f_X4_fewestPayments_47]
        simp (disch := omega) only [k_let, Option.bind_some, ↓reduceIte, eq_self, true_or, or_true, n01_0, n01_1, kb_or, kb_0T, kb_0F, vn_0, vn_1, vn_k, nl_0, nl_1, nl_2, nl_3, nl_4, nl_5, nl_6, nl_7, nl_8, nl_9, nl_10, nl_11, nl_12, nl_13, nl_14, nl_15, nl_16, nl_20, nl_21, nl_22, nl_23, nl_24, nl_25, nl_26, nl_27, nl_28, nl_29, nl_30, nl_31, nl_32, nl_40, nl_41, nl_42, nl_43, nl_45, nl_47, nl_48, nl_50, nl_57, nl_59, nl_60, nl_61, nl_62, nl_63, nl_64, nl_91, nl_93, nl_94, nl_97, nl_98, nl_100, nl_110, nl_122, nl_130, nl_144, nl_160, nl_240, nl_241, nl_255, nl_256, nl_400, nl_800, nl_900, nl_999, nl_1000, nl_1001, nl_1024, nl_1103, nl_1928, nl_4321, nl_5560, nl_12345, nl_1000000, nl_1000003, nl_252645135, nl_858993459, nl_1431655765, nl_1000000000, nI_add, pk_mul, n_sub, n_neg, n_cl, leT, leF, ltT, ltF, eqT, eqF, kbT, s_II, s_In, s_IJ, s_IA, s_IL, s_IR, s_IC, s_JI, s_JJ, s_Jn, s_JA, s_JL, s_JR, s_JC, s_AI, s_AJ, s_AA, s_An, s_AL, s_AR, s_AC, s_LI, s_LJ, s_LA, s_LL, s_Ln, s_LR, s_LC, n_and, f_X4_fewestPayments_73]
      rw [e]
      refine ih f (s + 1) U (by omega) (by omega) (by omega) h26 hF (fun s' hs' hc' => ?_)
      by_cases q : s' = s
      · exact absurd (q ▸ hc') c
      · exact hG s' (by omega) hc'
/-- those whose net isn't 0 -/
def conN (N : Nat → Int) (m : Nat) : Nat := bs (fun k => decide (N k ≠ 0)) m
theorem e_few {N : Nat → Int} {S : St} (hN : ∀ k, k < 8 → -200 ≤ N k ∧ N k ≤ 200) (h26 : ∀ k, k < 8 → gA S 26 k = iZ (N k)) : ∃ W, f_X4_fewestPayments S = some (iZ ((pc16 (conN N 8) : Int) - gr N (conN N 8) (conN N 8)), W) ∧ Fr [] [] [27, 28] [] S W := by
  have hC8 : conN N 8 < 256 := bs_lt _ 8
  have key : ∀ (m f k : Nat), k + m = 8 → m < f → ∃ W, f_X4_fewestPayments_4 f (nI (conN N k)) (nI k) S = some (iZ ((pc16 (conN N 8) : Int) - gr N (conN N 8) (conN N 8)), W) ∧ Fr [] [] [27, 28] [] S W := by
    intro m
    induction m with
    | zero =>
      intro f k hk hf
      obtain ⟨f, rfl⟩ : ∃ g, f = g + 1 := ⟨f - 1, by omega⟩
      have : k = 8 := by omega
      subst this
      obtain ⟨W, w1, w2⟩ := l_few47 (S := sA (sA S 27 0 (nI 0)) 28 0 (nI 0)) hN hC8 (conN N 8) FU 1 (sA (sA S 27 0 (nI 0)) 28 0 (nI 0)) (by omega) (FU_ge (by omega)) (by decide) h26 (Fr.refl _) (fun s hs _ => by
        have : s = 0 := by omega
        subst this
        refine ⟨rfl, ?_⟩
        have := gr_bd N (conN N 8) 0
        have e : gr N (conN N 8) 0 = 0 := by omega
        rw [e]; rfl)
      refine ⟨W, ?_, (((Fr.refl S).sA (k := 27) rfl _ _).sA rfl _ _).trans w2⟩
      rw [f_X4_fewestPayments_4]
      simp (disch := omega) only [k_let, Option.bind_some, ↓reduceIte, eq_self, true_or, or_true, n01_0, n01_1, kb_or, kb_0T, kb_0F, vn_0, vn_1, vn_k, nl_0, nl_1, nl_2, nl_3, nl_4, nl_5, nl_6, nl_7, nl_8, nl_9, nl_10, nl_11, nl_12, nl_13, nl_14, nl_15, nl_16, nl_20, nl_21, nl_22, nl_23, nl_24, nl_25, nl_26, nl_27, nl_28, nl_29, nl_30, nl_31, nl_32, nl_40, nl_41, nl_42, nl_43, nl_45, nl_47, nl_48, nl_50, nl_57, nl_59, nl_60, nl_61, nl_62, nl_63, nl_64, nl_91, nl_93, nl_94, nl_97, nl_98, nl_100, nl_110, nl_122, nl_130, nl_144, nl_160, nl_240, nl_241, nl_255, nl_256, nl_400, nl_800, nl_900, nl_999, nl_1000, nl_1001, nl_1024, nl_1103, nl_1928, nl_4321, nl_5560, nl_12345, nl_1000000, nl_1000003, nl_252645135, nl_858993459, nl_1431655765, nl_1000000000, nI_add, pk_mul, n_sub, n_neg, n_cl, leT, leF, ltT, ltF, eqT, eqF, kbT, s_II, s_In, s_IJ, s_IA, s_IL, s_IR, s_IC, s_JI, s_JJ, s_Jn, s_JA, s_JL, s_JR, s_JC, s_AI, s_AJ, s_AA, s_An, s_AL, s_AR, s_AC, s_LI, s_LJ, s_LA, s_LL, s_Ln, s_LR, s_LC, w1]
    | succ m ih =>
      intro f k hk hf
      obtain ⟨f, rfl⟩ : ∃ g, f = g + 1 := ⟨f - 1, by omega⟩
      have hk8 : k < 8 := by omega
      have hb := hN k hk8
      obtain ⟨W, w1, w2⟩ := ih f (k + 1) (by omega) (by omega)
      refine ⟨W, ?_, w2⟩
      rw [← w1, f_X4_fewestPayments_4]
      by_cases c : N k = 0
      · have ec : conN N (k + 1) = conN N k := if_neg (by simpa using c)
        rw [ec]
        simp (disch := omega) only [k_let, Option.bind_some, ↓reduceIte, eq_self, true_or, or_true, n01_0, n01_1, kb_or, kb_0T, kb_0F, vn_0, vn_1, vn_k, nl_0, nl_1, nl_2, nl_3, nl_4, nl_5, nl_6, nl_7, nl_8, nl_9, nl_10, nl_11, nl_12, nl_13, nl_14, nl_15, nl_16, nl_20, nl_21, nl_22, nl_23, nl_24, nl_25, nl_26, nl_27, nl_28, nl_29, nl_30, nl_31, nl_32, nl_40, nl_41, nl_42, nl_43, nl_45, nl_47, nl_48, nl_50, nl_57, nl_59, nl_60, nl_61, nl_62, nl_63, nl_64, nl_91, nl_93, nl_94, nl_97, nl_98, nl_100, nl_110, nl_122, nl_130, nl_144, nl_160, nl_240, nl_241, nl_255, nl_256, nl_400, nl_800, nl_900, nl_999, nl_1000, nl_1001, nl_1024, nl_1103, nl_1928, nl_4321, nl_5560, nl_12345, nl_1000000, nl_1000003, nl_252645135, nl_858993459, nl_1431655765, nl_1000000000, nI_add, pk_mul, n_sub, n_neg, n_cl, leT, leF, ltT, ltF, eqT, eqF, kbT, s_II, s_In, s_IJ, s_IA, s_IL, s_IR, s_IC, s_JI, s_JJ, s_Jn, s_JA, s_JL, s_JR, s_JC, s_AI, s_AJ, s_AA, s_An, s_AL, s_AR, s_AC, s_LI, s_LJ, s_LA, s_LL, s_Ln, s_LR, s_LC, zleT, zleF, zltT, zltF, zeqT, zeqF, nzleT, nzleF, nzltT, nzltF, nzeqT, nzeqF, znleT, znleF, znltT, znltF, zneqT, zneqF, z_add, z_sub, z_mul, z_neg, z_an, z_na, z_sn, z_ns, z_mn, z_nm, h26 k hk8, f_X4_fewestPayments_25]
      · have ec : conN N (k + 1) = conN N k ||| 2 ^ k := if_pos (decide_eq_true c)
        rw [ec]
        simp (disch := omega) only [k_let, Option.bind_some, ↓reduceIte, eq_self, true_or, or_true, n01_0, n01_1, kb_or, kb_0T, kb_0F, vn_0, vn_1, vn_k, nl_0, nl_1, nl_2, nl_3, nl_4, nl_5, nl_6, nl_7, nl_8, nl_9, nl_10, nl_11, nl_12, nl_13, nl_14, nl_15, nl_16, nl_20, nl_21, nl_22, nl_23, nl_24, nl_25, nl_26, nl_27, nl_28, nl_29, nl_30, nl_31, nl_32, nl_40, nl_41, nl_42, nl_43, nl_45, nl_47, nl_48, nl_50, nl_57, nl_59, nl_60, nl_61, nl_62, nl_63, nl_64, nl_91, nl_93, nl_94, nl_97, nl_98, nl_100, nl_110, nl_122, nl_130, nl_144, nl_160, nl_240, nl_241, nl_255, nl_256, nl_400, nl_800, nl_900, nl_999, nl_1000, nl_1001, nl_1024, nl_1103, nl_1928, nl_4321, nl_5560, nl_12345, nl_1000000, nl_1000003, nl_252645135, nl_858993459, nl_1431655765, nl_1000000000, nI_add, pk_mul, n_sub, n_neg, n_cl, leT, leF, ltT, ltF, eqT, eqF, kbT, s_II, s_In, s_IJ, s_IA, s_IL, s_IR, s_IC, s_JI, s_JJ, s_Jn, s_JA, s_JL, s_JR, s_JC, s_AI, s_AJ, s_AA, s_An, s_AL, s_AR, s_AC, s_LI, s_LJ, s_LA, s_LL, s_Ln, s_LR, s_LC, zleT, zleF, zltT, zltF, zeqT, zeqF, nzleT, nzleF, nzltT, nzltF, nzeqT, nzeqF, znleT, znleF, znltT, znltF, zneqT, zneqF, z_add, z_sub, z_mul, z_neg, z_an, z_na, z_sn, z_ns, z_mn, z_nm, h26 k hk8, n_shl1, n_or, f_X4_fewestPayments_25]
  unfold f_X4_fewestPayments
  exact key 8 FU 0 (by decide) (FU_ge (by decide))
theorem e_least {N : Nat → Int} {S : St} (hN : ∀ k, k < 8 → -200 ≤ N k ∧ N k ≤ 200) (h26 : ∀ k, k < 8 → gA S 26 k = iZ (N k)) : f_X4_least S = some (iZ (smZ (fun k => max 0 (N k)) 8), S) := by
  have bd : ∀ m, m ≤ 8 → -((200 * m : Nat) : Int) ≤ smZ (fun k => max 0 (N k)) m ∧ smZ (fun k => max 0 (N k)) m ≤ ((200 * m : Nat) : Int) := fun m hm => smZ_bd (b := 200) (fun d hd => by have := hN d (by omega); show -((200 : Nat) : Int) ≤ max 0 (N d) ∧ max 0 (N d) ≤ (200 : Nat); omega)
  have key : ∀ (m f k : Nat), k + m = 8 → m < f → f_X4_least_13 f (iZ (smZ (fun k => max 0 (N k)) k)) (nI 8) (nI k) S = some (iZ (smZ (fun k => max 0 (N k)) 8), S) := by
    intro m
    induction m with
    | zero =>
      intro f k hk hf
      obtain ⟨f, rfl⟩ : ∃ g, f = g + 1 := ⟨f - 1, by omega⟩
      have : k = 8 := by omega
      subst this
      rw [f_X4_least_13]
      simp (disch := omega) only [k_let, Option.bind_some, ↓reduceIte, eq_self, true_or, or_true, n01_0, n01_1, kb_or, kb_0T, kb_0F, vn_0, vn_1, vn_k, nl_0, nl_1, nl_2, nl_3, nl_4, nl_5, nl_6, nl_7, nl_8, nl_9, nl_10, nl_11, nl_12, nl_13, nl_14, nl_15, nl_16, nl_20, nl_21, nl_22, nl_23, nl_24, nl_25, nl_26, nl_27, nl_28, nl_29, nl_30, nl_31, nl_32, nl_40, nl_41, nl_42, nl_43, nl_45, nl_47, nl_48, nl_50, nl_57, nl_59, nl_60, nl_61, nl_62, nl_63, nl_64, nl_91, nl_93, nl_94, nl_97, nl_98, nl_100, nl_110, nl_122, nl_130, nl_144, nl_160, nl_240, nl_241, nl_255, nl_256, nl_400, nl_800, nl_900, nl_999, nl_1000, nl_1001, nl_1024, nl_1103, nl_1928, nl_4321, nl_5560, nl_12345, nl_1000000, nl_1000003, nl_252645135, nl_858993459, nl_1431655765, nl_1000000000, nI_add, pk_mul, n_sub, n_neg, n_cl, leT, leF, ltT, ltF, eqT, eqF, kbT, s_II, s_In, s_IJ, s_IA, s_IL, s_IR, s_IC, s_JI, s_JJ, s_Jn, s_JA, s_JL, s_JR, s_JC, s_AI, s_AJ, s_AA, s_An, s_AL, s_AR, s_AC, s_LI, s_LJ, s_LA, s_LL, s_Ln, s_LR, s_LC]
    | succ m ih =>
      intro f k hk hf
      obtain ⟨f, rfl⟩ : ∃ g, f = g + 1 := ⟨f - 1, by omega⟩
      have hk8 : k < 8 := by omega
      have hb := hN k hk8
      rw [← ih f (k + 1) (by omega) (by omega), f_X4_least_13]
      have e1 : (if nI 0 < iZ (N k) then iZ (N k) else nI 0) = iZ (max 0 (N k)) := by
        by_cases c : 0 < N k
        · simp (disch := omega) only [zleT, zleF, zltT, zltF, zeqT, zeqF, nzleT, nzleF, nzltT, nzltF, nzeqT, nzeqF, znleT, znleF, znltT, znltF, zneqT, zneqF, ↓reduceIte] <;> (congr 1; omega)
        · simp (disch := omega) only [zleT, zleF, zltT, zltF, zeqT, zeqF, nzleT, nzleF, nzltT, nzltF, nzeqT, nzeqF, znleT, znleF, znltT, znltF, zneqT, zneqF, ↓reduceIte] <;> (first | (rw [n_Z]; congr 1; omega) | omega)
      simp (disch := omega) only [k_let, Option.bind_some, ↓reduceIte, eq_self, true_or, or_true, n01_0, n01_1, kb_or, kb_0T, kb_0F, vn_0, vn_1, vn_k, nl_0, nl_1, nl_2, nl_3, nl_4, nl_5, nl_6, nl_7, nl_8, nl_9, nl_10, nl_11, nl_12, nl_13, nl_14, nl_15, nl_16, nl_20, nl_21, nl_22, nl_23, nl_24, nl_25, nl_26, nl_27, nl_28, nl_29, nl_30, nl_31, nl_32, nl_40, nl_41, nl_42, nl_43, nl_45, nl_47, nl_48, nl_50, nl_57, nl_59, nl_60, nl_61, nl_62, nl_63, nl_64, nl_91, nl_93, nl_94, nl_97, nl_98, nl_100, nl_110, nl_122, nl_130, nl_144, nl_160, nl_240, nl_241, nl_255, nl_256, nl_400, nl_800, nl_900, nl_999, nl_1000, nl_1001, nl_1024, nl_1103, nl_1928, nl_4321, nl_5560, nl_12345, nl_1000000, nl_1000003, nl_252645135, nl_858993459, nl_1431655765, nl_1000000000, leT, leF, ltT, ltF, eqT, eqF, kbT, n_cl, nI_add, h26 k hk8, e1, z_add]
      rfl
  unfold f_X4_least
  exact key 8 FU 0 (by decide) (FU_ge (by decide))
