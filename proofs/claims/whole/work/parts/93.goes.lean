/-! part 93: goesRound -/
def lo (s : Nat) : Nat := lwF (fun i => s.testBit i) 8 0
def xi (v : Nat) : Int32 := if v < 8 then nI v else iZ (-((1 : Nat) : Int))
theorem xi_a {v : Nat} (h : v < 8) : xi v = nI v := if_pos h
theorem xi_b {v : Nat} (h : ¬ v < 8) : xi v = iZ (-((1 : Nat) : Int)) := if_neg h
theorem e_lowest {s : Nat} (hs : s < 256) (S : St) : f_X8_lowestOf (nI s) S = some (xi (lo s), S) := by
  have key : ∀ (m f d : Nat), d + m = 8 → m < f → f_X8_lowestOf_2 f (nI s) (nI d) S = some (xi (lwF (fun i => s.testBit i) m d), S) := by
    intro m
    induction m with
    | zero =>
      intro f d hd hf
      obtain ⟨f, rfl⟩ : ∃ g, f = g + 1 := ⟨f - 1, by omega⟩
      have : d = 8 := by omega
      subst this
      rw [show lwF (fun i => s.testBit i) 0 8 = 8 from rfl, xi_b (by decide), f_X8_lowestOf_2]
      simp (disch := omega) only [k_let, Option.bind_some, ↓reduceIte, eq_self, true_or, or_true, n01_0, n01_1, kb_or, kb_0T, kb_0F, vn_0, vn_1, vn_k, nl_0, nl_1, nl_2, nl_3, nl_4, nl_5, nl_6, nl_7, nl_8, nl_9, nl_10, nl_11, nl_12, nl_13, nl_14, nl_15, nl_16, nl_20, nl_21, nl_22, nl_23, nl_24, nl_25, nl_26, nl_27, nl_28, nl_29, nl_30, nl_31, nl_32, nl_40, nl_41, nl_42, nl_43, nl_45, nl_47, nl_48, nl_50, nl_57, nl_59, nl_60, nl_61, nl_62, nl_63, nl_64, nl_91, nl_93, nl_94, nl_97, nl_98, nl_100, nl_110, nl_122, nl_130, nl_144, nl_160, nl_240, nl_241, nl_255, nl_256, nl_400, nl_800, nl_900, nl_999, nl_1000, nl_1001, nl_1024, nl_1103, nl_1928, nl_4321, nl_5560, nl_12345, nl_1000000, nl_1000003, nl_252645135, nl_858993459, nl_1431655765, nl_1000000000, nI_add, pk_mul, n_sub, n_neg, n_cl, leT, leF, ltT, ltF, eqT, eqF, kbT, s_II, s_In, s_IJ, s_IA, s_IL, s_IR, s_IC, s_JI, s_JJ, s_Jn, s_JA, s_JL, s_JR, s_JC, s_AI, s_AJ, s_AA, s_An, s_AL, s_AR, s_AC, s_LI, s_LJ, s_LA, s_LL, s_Ln, s_LR, s_LC, zleT, zleF, zltT, zltF, zeqT, zeqF, nzleT, nzleF, nzltT, nzltF, nzeqT, nzeqF, znleT, znleF, znltT, znltF, zneqT, zneqF, z_add, z_sub, z_mul, z_neg, z_an, z_na, z_sn, z_ns, z_mn, z_nm, Nat.add_sub_cancel, decide_true, decide_false, and_self, e_done, e_ref1, e_ref2, e_ref3, e_ref5, e_ref6, e_tel1, e_tel2, e_tel3, e_tel5, e_tel6, e_telN, rfT_m]
    | succ m ih =>
      intro f d hd hf
      obtain ⟨f, rfl⟩ : ∃ g, f = g + 1 := ⟨f - 1, by omega⟩
      have el : lwF (fun i => s.testBit i) (m + 1) d = if s.testBit d = true then d else lwF (fun i => s.testBit i) m (d + 1) := rfl
      rw [f_X8_lowestOf_2, el]
      have tb := tb_div s d
      by_cases c : s / 2 ^ d % 2 = 1
      · rw [decide_eq_true c] at tb
        rw [if_pos tb, xi_a (by omega)]
        simp (disch := omega) only [k_let, Option.bind_some, ↓reduceIte, eq_self, true_or, or_true, n01_0, n01_1, kb_or, kb_0T, kb_0F, vn_0, vn_1, vn_k, nl_0, nl_1, nl_2, nl_3, nl_4, nl_5, nl_6, nl_7, nl_8, nl_9, nl_10, nl_11, nl_12, nl_13, nl_14, nl_15, nl_16, nl_20, nl_21, nl_22, nl_23, nl_24, nl_25, nl_26, nl_27, nl_28, nl_29, nl_30, nl_31, nl_32, nl_40, nl_41, nl_42, nl_43, nl_45, nl_47, nl_48, nl_50, nl_57, nl_59, nl_60, nl_61, nl_62, nl_63, nl_64, nl_91, nl_93, nl_94, nl_97, nl_98, nl_100, nl_110, nl_122, nl_130, nl_144, nl_160, nl_240, nl_241, nl_255, nl_256, nl_400, nl_800, nl_900, nl_999, nl_1000, nl_1001, nl_1024, nl_1103, nl_1928, nl_4321, nl_5560, nl_12345, nl_1000000, nl_1000003, nl_252645135, nl_858993459, nl_1431655765, nl_1000000000, nI_add, pk_mul, n_sub, n_neg, n_cl, leT, leF, ltT, ltF, eqT, eqF, kbT, s_II, s_In, s_IJ, s_IA, s_IL, s_IR, s_IC, s_JI, s_JJ, s_Jn, s_JA, s_JL, s_JR, s_JC, s_AI, s_AJ, s_AA, s_An, s_AL, s_AR, s_AC, s_LI, s_LJ, s_LA, s_LL, s_Ln, s_LR, s_LC, n_shr, n_and1]
      · rw [decide_eq_false c] at tb
        rw [tb, if_neg (show ¬ (false = true) by decide), ← ih f (d + 1) (by omega) (by omega)]
        simp (disch := omega) only [k_let, Option.bind_some, ↓reduceIte, eq_self, true_or, or_true, n01_0, n01_1, kb_or, kb_0T, kb_0F, vn_0, vn_1, vn_k, nl_0, nl_1, nl_2, nl_3, nl_4, nl_5, nl_6, nl_7, nl_8, nl_9, nl_10, nl_11, nl_12, nl_13, nl_14, nl_15, nl_16, nl_20, nl_21, nl_22, nl_23, nl_24, nl_25, nl_26, nl_27, nl_28, nl_29, nl_30, nl_31, nl_32, nl_40, nl_41, nl_42, nl_43, nl_45, nl_47, nl_48, nl_50, nl_57, nl_59, nl_60, nl_61, nl_62, nl_63, nl_64, nl_91, nl_93, nl_94, nl_97, nl_98, nl_100, nl_110, nl_122, nl_130, nl_144, nl_160, nl_240, nl_241, nl_255, nl_256, nl_400, nl_800, nl_900, nl_999, nl_1000, nl_1001, nl_1024, nl_1103, nl_1928, nl_4321, nl_5560, nl_12345, nl_1000000, nl_1000003, nl_252645135, nl_858993459, nl_1431655765, nl_1000000000, nI_add, pk_mul, n_sub, n_neg, n_cl, leT, leF, ltT, ltF, eqT, eqF, kbT, s_II, s_In, s_IJ, s_IA, s_IL, s_IR, s_IC, s_JI, s_JJ, s_Jn, s_JA, s_JL, s_JR, s_JC, s_AI, s_AJ, s_AA, s_An, s_AL, s_AR, s_AC, s_LI, s_LJ, s_LA, s_LL, s_Ln, s_LR, s_LC, n_shr, n_and1]
  exact key 8 FU 0 (by omega) (FU_ge (by decide))
theorem lo_spec {s : Nat} : (lo s < 8 → s.testBit (lo s) = true) ∧ (∀ i, i < lo s → i < 8 → s.testBit i = false) ∧ lo s ≤ 8 := by
  have key : ∀ m d, (lwF (fun i => s.testBit i) m d < d + m → s.testBit (lwF (fun i => s.testBit i) m d) = true) ∧ (∀ i, d ≤ i → i < lwF (fun i => s.testBit i) m d → s.testBit i = false) ∧ lwF (fun i => s.testBit i) m d ≤ d + m := by
    intro m
    induction m with
    | zero => intro d; exact ⟨fun h => absurd h (Nat.lt_irrefl d), fun i h1 h2 => absurd (show i < d from h2) (by omega), Nat.le_refl _⟩
    | succ m ih =>
      intro d
      have el : lwF (fun i => s.testBit i) (m + 1) d = if s.testBit d = true then d else lwF (fun i => s.testBit i) m (d + 1) := rfl
      rw [el]
      by_cases c : s.testBit d = true
      · rw [if_pos c]; exact ⟨fun _ => c, fun i h1 h2 => absurd h2 (by omega), by omega⟩
      · rw [if_neg c]
        obtain ⟨a1, a2, a3⟩ := ih (d + 1)
        refine ⟨fun h => a1 (by omega), fun i h1 h2 => ?_, by omega⟩
        by_cases q : i = d
        · rw [q]; exact Bool.not_eq_true _ ▸ c
        · exact a2 i (by omega) h2
  obtain ⟨a1, a2, a3⟩ := key 8 0
  exact ⟨fun h => a1 (by rw [Nat.zero_add]; exact h), fun i h _ => a2 i (Nat.zero_le _) h, by have : lo s ≤ 0 + 8 := a3; omega⟩
theorem lo_eq {s k : Nat} (hk : k < 8) (h : s.testBit k = true) (hl : ∀ i, i < k → s.testBit i = false) : lo s = k := by
  obtain ⟨a1, a2, a3⟩ := lo_spec (s := s)
  by_cases c : lo s < k
  · have := a1 (by omega)
    rw [hl _ c] at this
    exact Bool.noConfusion this
  · by_cases d : k < lo s
    · have := a2 k d hk
      rw [this] at h
      exact Bool.noConfusion h
    · omega
/-- the walk in the set s -/
def wk (ad : Nat → Nat) (s : Nat) : Nat → Nat
  | 0 => lo s
  | i + 1 => lo (ad (wk ad s i) &&& s)
def GR (ad : Nat → Nat) (s n : Nat) : Prop := (∀ i, i < n → wk ad s i < 8) ∧ (∀ i j, i < n → j < n → wk ad s i = wk ad s j → i = j) ∧ wk ad s n = wk ad s 0
theorem l_goes {ad : Nat → Nat} {s n : Nat} {S : St} (hs : s < 256) (hn : n ≤ 8) (hn2 : 2 ≤ n) (ha : ∀ k, k < 8 → gA S 30 k = nI (ad k) ∧ ad k < 256) : ∀ (m f i : Nat) (U : St), i + m = n → m < f → Fr [] [] [31] [] S U → (∀ j, j < i → gA U 31 j = nI (wk ad s j) ∧ wk ad s j < 8) → (∀ j k, j < i → k < i → wk ad s j = wk ad s k → j = k) →
    ∃ b W, f_X8_goesRound_14 f (nI s) (nI n) (xi (wk ad s 0)) (xi (wk ad s i)) (nI (ps (wk ad s) i)) (nI i) U = some (kB b, W) ∧ Fr [] [] [31] [] S W ∧ (b = true ↔ GR ad s n) ∧ (b = true → ∀ j, j < n → gA W 31 j = nI (wk ad s j)) := by
  intro m
  induction m with
  | zero =>
    intro f i U hi hf hF hR hI
    obtain ⟨f, rfl⟩ : ∃ g, f = g + 1 := ⟨f - 1, by omega⟩
    have : i = n := by omega
    subst this
    have w0 := (hR 0 (by omega)).2
    by_cases c : wk ad s i = wk ad s 0
    · refine ⟨true, U, ?_, hF, ⟨fun _ => ⟨fun j hj => (hR j hj).2, hI, c⟩, fun _ => rfl⟩, fun _ j hj => (hR j hj).1⟩
      rw [c, xi_a w0, f_X8_goesRound_14, f_X8_goesRound_85, f_X8_goesRound_96]
      simp (disch := omega) only [k_let, Option.bind_some, ↓reduceIte, eq_self, true_or, or_true, n01_0, n01_1, kb_or, kb_0T, kb_0F, vn_0, vn_1, vn_k, nl_0, nl_1, nl_2, nl_3, nl_4, nl_5, nl_6, nl_7, nl_8, nl_9, nl_10, nl_11, nl_12, nl_13, nl_14, nl_15, nl_16, nl_20, nl_21, nl_22, nl_23, nl_24, nl_25, nl_26, nl_27, nl_28, nl_29, nl_30, nl_31, nl_32, nl_40, nl_41, nl_42, nl_43, nl_45, nl_47, nl_48, nl_50, nl_57, nl_59, nl_60, nl_61, nl_62, nl_63, nl_64, nl_91, nl_93, nl_94, nl_97, nl_98, nl_100, nl_110, nl_122, nl_130, nl_144, nl_160, nl_240, nl_241, nl_255, nl_256, nl_400, nl_800, nl_900, nl_999, nl_1000, nl_1001, nl_1024, nl_1103, nl_1928, nl_4321, nl_5560, nl_12345, nl_1000000, nl_1000003, nl_252645135, nl_858993459, nl_1431655765, nl_1000000000, nI_add, pk_mul, n_sub, n_neg, n_cl, leT, leF, ltT, ltF, eqT, eqF, kbT, s_II, s_In, s_IJ, s_IA, s_IL, s_IR, s_IC, s_JI, s_JJ, s_Jn, s_JA, s_JL, s_JR, s_JC, s_AI, s_AJ, s_AA, s_An, s_AL, s_AR, s_AC, s_LI, s_LJ, s_LA, s_LL, s_Ln, s_LR, s_LC, kB_t]
    · refine ⟨false, U, ?_, hF, ⟨fun h => Bool.noConfusion h, fun h => absurd h.2.2 c⟩, fun h => Bool.noConfusion h⟩
      rw [xi_a w0, f_X8_goesRound_14, f_X8_goesRound_85, f_X8_goesRound_96, f_X8_goesRound_96]
      by_cases d : wk ad s i < 8
      · rw [xi_a d]
        simp (disch := omega) only [k_let, Option.bind_some, ↓reduceIte, eq_self, true_or, or_true, n01_0, n01_1, kb_or, kb_0T, kb_0F, vn_0, vn_1, vn_k, nl_0, nl_1, nl_2, nl_3, nl_4, nl_5, nl_6, nl_7, nl_8, nl_9, nl_10, nl_11, nl_12, nl_13, nl_14, nl_15, nl_16, nl_20, nl_21, nl_22, nl_23, nl_24, nl_25, nl_26, nl_27, nl_28, nl_29, nl_30, nl_31, nl_32, nl_40, nl_41, nl_42, nl_43, nl_45, nl_47, nl_48, nl_50, nl_57, nl_59, nl_60, nl_61, nl_62, nl_63, nl_64, nl_91, nl_93, nl_94, nl_97, nl_98, nl_100, nl_110, nl_122, nl_130, nl_144, nl_160, nl_240, nl_241, nl_255, nl_256, nl_400, nl_800, nl_900, nl_999, nl_1000, nl_1001, nl_1024, nl_1103, nl_1928, nl_4321, nl_5560, nl_12345, nl_1000000, nl_1000003, nl_252645135, nl_858993459, nl_1431655765, nl_1000000000, nI_add, pk_mul, n_sub, n_neg, n_cl, leT, leF, ltT, ltF, eqT, eqF, kbT, s_II, s_In, s_IJ, s_IA, s_IL, s_IR, s_IC, s_JI, s_JJ, s_Jn, s_JA, s_JL, s_JR, s_JC, s_AI, s_AJ, s_AA, s_An, s_AL, s_AR, s_AC, s_LI, s_LJ, s_LA, s_LL, s_Ln, s_LR, s_LC, kB_f]
      · rw [xi_b d]
        simp (disch := omega) only [k_let, Option.bind_some, ↓reduceIte, eq_self, true_or, or_true, n01_0, n01_1, kb_or, kb_0T, kb_0F, vn_0, vn_1, vn_k, nl_0, nl_1, nl_2, nl_3, nl_4, nl_5, nl_6, nl_7, nl_8, nl_9, nl_10, nl_11, nl_12, nl_13, nl_14, nl_15, nl_16, nl_20, nl_21, nl_22, nl_23, nl_24, nl_25, nl_26, nl_27, nl_28, nl_29, nl_30, nl_31, nl_32, nl_40, nl_41, nl_42, nl_43, nl_45, nl_47, nl_48, nl_50, nl_57, nl_59, nl_60, nl_61, nl_62, nl_63, nl_64, nl_91, nl_93, nl_94, nl_97, nl_98, nl_100, nl_110, nl_122, nl_130, nl_144, nl_160, nl_240, nl_241, nl_255, nl_256, nl_400, nl_800, nl_900, nl_999, nl_1000, nl_1001, nl_1024, nl_1103, nl_1928, nl_4321, nl_5560, nl_12345, nl_1000000, nl_1000003, nl_252645135, nl_858993459, nl_1431655765, nl_1000000000, nI_add, pk_mul, n_sub, n_neg, n_cl, leT, leF, ltT, ltF, eqT, eqF, kbT, s_II, s_In, s_IJ, s_IA, s_IL, s_IR, s_IC, s_JI, s_JJ, s_Jn, s_JA, s_JL, s_JR, s_JC, s_AI, s_AJ, s_AA, s_An, s_AL, s_AR, s_AC, s_LI, s_LJ, s_LA, s_LL, s_Ln, s_LR, s_LC, zleT, zleF, zltT, zltF, zeqT, zeqF, nzleT, nzleF, nzltT, nzltF, nzeqT, nzeqF, znleT, znleF, znltT, znltF, zneqT, zneqF, z_add, z_sub, z_mul, z_neg, z_an, z_na, z_sn, z_ns, z_mn, z_nm, Nat.add_sub_cancel, decide_true, decide_false, and_self, e_done, e_ref1, e_ref2, e_ref3, e_ref5, e_ref6, e_tel1, e_tel2, e_tel3, e_tel5, e_tel6, e_telN, rfT_m, kB_f]
  | succ m ih =>
    intro f i U hi hf hF hR hI
    obtain ⟨f, rfl⟩ : ∃ g, f = g + 1 := ⟨f - 1, by omega⟩
    by_cases d : wk ad s i < 8
    · have g0 := e_dancer (nI (wk ad s i)) U
      rw [decide_eq_true (show 0 ≤ (nI (wk ad s i)).toInt ∧ (nI (wk ad s i)).toInt ≤ 7 by rw [n_ti (by omega)]; omega), kB_t] at g0
      have pl := ps_lt (p := wk ad s) (n := i) (fun j hj => (hR j hj).2)
      have tb := tb_div (ps (wk ad s) i) (wk ad s i)
      by_cases c : ps (wk ad s) i / 2 ^ wk ad s i % 2 = 1
      · rw [decide_eq_true c] at tb
        obtain ⟨j, j1, j2⟩ := (ps_tb _ _ _).mp tb
        refine ⟨false, U, ?_, hF, ⟨fun h => Bool.noConfusion h, fun h => ?_⟩, fun h => Bool.noConfusion h⟩
        · rw [xi_a d, f_X8_goesRound_14]
          simp (disch := omega) only [k_let, Option.bind_some, ↓reduceIte, eq_self, true_or, or_true, n01_0, n01_1, kb_or, kb_0T, kb_0F, vn_0, vn_1, vn_k, nl_0, nl_1, nl_2, nl_3, nl_4, nl_5, nl_6, nl_7, nl_8, nl_9, nl_10, nl_11, nl_12, nl_13, nl_14, nl_15, nl_16, nl_20, nl_21, nl_22, nl_23, nl_24, nl_25, nl_26, nl_27, nl_28, nl_29, nl_30, nl_31, nl_32, nl_40, nl_41, nl_42, nl_43, nl_45, nl_47, nl_48, nl_50, nl_57, nl_59, nl_60, nl_61, nl_62, nl_63, nl_64, nl_91, nl_93, nl_94, nl_97, nl_98, nl_100, nl_110, nl_122, nl_130, nl_144, nl_160, nl_240, nl_241, nl_255, nl_256, nl_400, nl_800, nl_900, nl_999, nl_1000, nl_1001, nl_1024, nl_1103, nl_1928, nl_4321, nl_5560, nl_12345, nl_1000000, nl_1000003, nl_252645135, nl_858993459, nl_1431655765, nl_1000000000, nI_add, pk_mul, n_sub, n_neg, n_cl, leT, leF, ltT, ltF, eqT, eqF, kbT, s_II, s_In, s_IJ, s_IA, s_IL, s_IR, s_IC, s_JI, s_JJ, s_Jn, s_JA, s_JL, s_JR, s_JC, s_AI, s_AJ, s_AA, s_An, s_AL, s_AR, s_AC, s_LI, s_LJ, s_LA, s_LL, s_Ln, s_LR, s_LC, ↓b_of g0, n_shr, n_and1, kB_f, f_X8_goesRound_45]
        · have := h.2.1 j i (by omega) (by omega) j2
          omega
      · rw [decide_eq_false c] at tb
        obtain ⟨a1, a2⟩ := ha _ d
        have f1 := hF.sA (k := 31) rfl i (nI (wk ad s i))
        have a3 : gA (sA U 31 i (nI (wk ad s i))) 30 (wk ad s i) = nI (ad (wk ad s i)) := by rw [f1.A (k := 30) rfl]; exact a1
        have lw := e_lowest (s := ad (wk ad s i) &&& s) (Nat.lt_of_le_of_lt Nat.and_le_right hs) (sA U 31 i (nI (wk ad s i)))
        obtain ⟨b, W, b1, b2, b3, b4⟩ := ih f (i + 1) (sA U 31 i (nI (wk ad s i))) (by omega) (by omega) f1 (fun j hj => by
          rw [s_AA]
          by_cases q : j = i
          · rw [q, u_s]; exact ⟨rfl, d⟩
          · rw [u_n q]; exact hR j (by omega)) (fun j k hj hk e => by
          by_cases q : j = i
          · by_cases q2 : k = i
            · omega
            · have : (ps (wk ad s) i).testBit (wk ad s i) = true := (ps_tb _ _ _).mpr ⟨k, by omega, by rw [← e, q]⟩
              rw [tb] at this
              exact Bool.noConfusion this
          · by_cases q2 : k = i
            · have : (ps (wk ad s) i).testBit (wk ad s i) = true := (ps_tb _ _ _).mpr ⟨j, by omega, by rw [e, q2]⟩
              rw [tb] at this
              exact Bool.noConfusion this
            · exact hI j k (by omega) (by omega) e)
        refine ⟨b, W, ?_, b2, b3, b4⟩
        rw [← b1]
        show _ = f_X8_goesRound_14 f (nI s) (nI n) (xi (wk ad s 0)) (xi (lo (ad (wk ad s i) &&& s))) (nI (ps (wk ad s) i ||| 2 ^ wk ad s i)) (nI (i + 1)) _
        rw [xi_a d, f_X8_goesRound_14]
        have sh : nI (ps (wk ad s) i) >>> (nI (wk ad s i) &&& nI 31) &&& nI 1 = nI (ps (wk ad s) i / 2 ^ wk ad s i % 2) := by rw [n_shr (by omega) (by omega), n_and1]
        have lw2 : f_X8_lowestOf (nI (ad (wk ad s i)) &&& nI s) (sA U 31 i (nI (wk ad s i))) = some (xi (lo (ad (wk ad s i) &&& s)), sA U 31 i (nI (wk ad s i))) := by rw [n_and]; exact lw
        simp (disch := omega) only [k_let, Option.bind_some, ↓reduceIte, eq_self, true_or, or_true, n01_0, n01_1, kb_or, kb_0T, kb_0F, vn_0, vn_1, vn_k, nl_0, nl_1, nl_2, nl_3, nl_4, nl_5, nl_6, nl_7, nl_8, nl_9, nl_10, nl_11, nl_12, nl_13, nl_14, nl_15, nl_16, nl_20, nl_21, nl_22, nl_23, nl_24, nl_25, nl_26, nl_27, nl_28, nl_29, nl_30, nl_31, nl_32, nl_40, nl_41, nl_42, nl_43, nl_45, nl_47, nl_48, nl_50, nl_57, nl_59, nl_60, nl_61, nl_62, nl_63, nl_64, nl_91, nl_93, nl_94, nl_97, nl_98, nl_100, nl_110, nl_122, nl_130, nl_144, nl_160, nl_240, nl_241, nl_255, nl_256, nl_400, nl_800, nl_900, nl_999, nl_1000, nl_1001, nl_1024, nl_1103, nl_1928, nl_4321, nl_5560, nl_12345, nl_1000000, nl_1000003, nl_252645135, nl_858993459, nl_1431655765, nl_1000000000, nI_add, pk_mul, n_sub, n_neg, n_cl, leT, leF, ltT, ltF, eqT, eqF, kbT, s_II, s_In, s_IJ, s_IA, s_IL, s_IR, s_IC, s_JI, s_JJ, s_Jn, s_JA, s_JL, s_JR, s_JC, s_AI, s_AJ, s_AA, s_An, s_AL, s_AR, s_AC, s_LI, s_LJ, s_LA, s_LL, s_Ln, s_LR, s_LC, ↓b_of g0, sh, a3, lw2, n_shl1, n_or]
    · have g0 := e_dancer (iZ (-((1 : Nat) : Int))) U
      rw [decide_eq_false (by decide), kB_f] at g0
      refine ⟨false, U, ?_, hF, ⟨fun h => Bool.noConfusion h, fun h => absurd (h.1 i (by omega)) d⟩, fun h => Bool.noConfusion h⟩
      rw [xi_b d, f_X8_goesRound_14]
      simp (disch := omega) only [k_let, Option.bind_some, ↓reduceIte, eq_self, true_or, or_true, n01_0, n01_1, kb_or, kb_0T, kb_0F, vn_0, vn_1, vn_k, nl_0, nl_1, nl_2, nl_3, nl_4, nl_5, nl_6, nl_7, nl_8, nl_9, nl_10, nl_11, nl_12, nl_13, nl_14, nl_15, nl_16, nl_20, nl_21, nl_22, nl_23, nl_24, nl_25, nl_26, nl_27, nl_28, nl_29, nl_30, nl_31, nl_32, nl_40, nl_41, nl_42, nl_43, nl_45, nl_47, nl_48, nl_50, nl_57, nl_59, nl_60, nl_61, nl_62, nl_63, nl_64, nl_91, nl_93, nl_94, nl_97, nl_98, nl_100, nl_110, nl_122, nl_130, nl_144, nl_160, nl_240, nl_241, nl_255, nl_256, nl_400, nl_800, nl_900, nl_999, nl_1000, nl_1001, nl_1024, nl_1103, nl_1928, nl_4321, nl_5560, nl_12345, nl_1000000, nl_1000003, nl_252645135, nl_858993459, nl_1431655765, nl_1000000000, nI_add, pk_mul, n_sub, n_neg, n_cl, leT, leF, ltT, ltF, eqT, eqF, kbT, s_II, s_In, s_IJ, s_IA, s_IL, s_IR, s_IC, s_JI, s_JJ, s_Jn, s_JA, s_JL, s_JR, s_JC, s_AI, s_AJ, s_AA, s_An, s_AL, s_AR, s_AC, s_LI, s_LJ, s_LA, s_LL, s_Ln, s_LR, s_LC, ↓b_of g0, kB_f, f_X8_goesRound_45]
theorem e_goes {ad : Nat → Nat} {s n : Nat} {S : St} (hs : s < 256) (hn : n ≤ 8) (hn2 : 2 ≤ n) (ha : ∀ k, k < 8 → gA S 30 k = nI (ad k) ∧ ad k < 256) :
    ∃ b W, f_X8_goesRound (nI s) (nI n) S = some (kB b, W) ∧ Fr [] [] [31] [] S W ∧ (b = true ↔ GR ad s n) ∧ (b = true → ∀ j, j < n → gA W 31 j = nI (wk ad s j)) := by
  obtain ⟨b, W, b1, b2, b3, b4⟩ := l_goes hs hn hn2 ha n FU 0 S (by omega) (FU_ge (by omega)) (Fr.refl S) (fun j hj => absurd hj (Nat.not_lt_zero j)) (fun j k hj => absurd hj (Nat.not_lt_zero j))
  refine ⟨b, W, ?_, b2, b3, b4⟩
  have lw := e_lowest hs S
  unfold f_X8_goesRound
  rw [b_of lw]
  exact b1
