/-! part dc: a clause's head -/
theorem Cm.lt {F : Nat → Nat × Int} {i j h : Nat} {δ : Den} (c : Cm F i j δ h) : i < j := by
  by_cases q : i = j
  · exfalso
    subst q
    have hE : EnvOk (fun _ => 0) := fun w _ => ⟨by show (-1000 : Int) ≤ 0; decide, by show (0 : Int) ≤ 1000; decide⟩
    obtain ⟨m, -, e⟩ := c.2 F (fun _ _ _ => rfl) (fun _ => 0) hE (h + 1) [] i 0 (by show 0 + h ≤ h + 1; omega) (Nat.le_refl i) (Nat.le_refl i)
    rw [rn_end (Nat.le_refl i)] at e
    cases z : δ (fun _ => 0) with
    | none => rw [z] at e; cases e
    | some v =>
      rw [z] at e
      have e : some (some ([] : List Int)) = rn F (fun _ => 0) (h + 1) m i i [v] := e
      rw [rn_end (Nat.le_refl i)] at e
      cases e
  · have := c.1.1
    omega
def hdF (t : Nat → Nat) (n a : Nat) : Nat → Nat → Int32 → Int32
  | 0, _, its => its
  | m + 1, k, its => hdF t n a m (k + 1) (if isW t n a k = true then nI k else its)
/-- the head that is here: 0 worth, 1 bars, 2 voids -/
theorem hd_ck (t : Nat → Nat) (n a : Nat) : hdF t n a 3 0 (iZ (-1)) = if ckN t n a = 0 then iZ (-1) else nI (ckN t n a - 1) := by
  have key : ∀ i j, i < 14 → j < 14 → i ≠ j → isW t n a i = true → isW t n a j = false := fun i j hi hj hij h => by
    cases q : isW t n a j with
    | false => rfl
    | true => exact absurd (isW_inj hi hj h q) hij
  unfold ckN
  show (if isW t n a 2 = true then nI 2 else if isW t n a 1 = true then nI 1 else if isW t n a 0 = true then nI 0 else iZ (-1)) = _
  by_cases h0 : isW t n a 0 = true
  · have k1 := key 0 1 (by decide) (by decide) (by decide) h0
    have k2 := key 0 2 (by decide) (by decide) (by decide) h0
    simp [h0, k1, k2]
  · by_cases h1 : isW t n a 1 = true
    · have k2 := key 1 2 (by decide) (by decide) (by decide) h1
      simp [h0, h1, k2]
    · by_cases h2 : isW t n a 2 = true
      · simp [h0, h1, h2]
      · simp [h0, h1, h2]
theorem l_head {t : Nat → Nat} {n a mm : Nat} {U : St} (hM : Mtk t n a U) (h42 : gI U 42 = nI mm) (hmm : mm < 1000) (hw : ∀ i, i < 3 → gL U 63 i = lZ (hdL.getD i 0)) : ∀ (m f k : Nat) (its : Int32), k + m = 3 → m < f → f_X12_readClause_4 f its (nI k) U = (if hdF t n a m k its = iZ (-1) then f_X12_readClause_54 (iZ (-1)) (nI 0) U else if 12 ≤ mm then f_X12_readClause_54 (hdF t n a m k its) (nI 0) U else f_X12_readClause_54 (hdF t n a m k its) (nI 1) U) := by
  intro m
  induction m with
  | zero =>
    intro f k its hk hf
    obtain ⟨f, rfl⟩ : ∃ j, f = j + 1 := ⟨f - 1, by omega⟩
    rw [f_X12_readClause_4]
    unfold f_X12_readClause_53
    show _ = (if its = iZ (-1) then _ else _)
    by_cases c : its = iZ (-1)
    · rw [if_pos c, c]
      simp (disch := omega) only [k_let, Option.bind_some, ↓reduceIte, eq_self, true_or, or_true, n01_0, n01_1, kb_or, kb_0T, kb_0F, vn_0, vn_1, vn_k, nl_0, nl_1, nl_2, nl_3, nl_4, nl_5, nl_6, nl_7, nl_8, nl_9, nl_10, nl_11, nl_12, nl_13, nl_14, nl_15, nl_16, nl_20, nl_21, nl_22, nl_23, nl_24, nl_25, nl_26, nl_27, nl_28, nl_29, nl_30, nl_31, nl_32, nl_40, nl_41, nl_42, nl_43, nl_45, nl_47, nl_48, nl_50, nl_57, nl_59, nl_60, nl_61, nl_62, nl_63, nl_64, nl_91, nl_93, nl_94, nl_97, nl_98, nl_100, nl_110, nl_122, nl_130, nl_144, nl_160, nl_240, nl_241, nl_255, nl_256, nl_400, nl_800, nl_900, nl_999, nl_1000, nl_1001, nl_1024, nl_1103, nl_1928, nl_4321, nl_5560, nl_12345, nl_1000000, nl_1000003, nl_252645135, nl_858993459, nl_1431655765, nl_1000000000, nI_add, pk_mul, n_sub, n_neg, n_cl, leT, leF, ltT, ltF, eqT, eqF, kbT, s_II, s_In, s_IJ, s_IA, s_IL, s_IR, s_IC, s_JI, s_JJ, s_Jn, s_JA, s_JL, s_JR, s_JC, s_AI, s_AJ, s_AA, s_An, s_AL, s_AR, s_AC, s_LI, s_LJ, s_LA, s_LL, s_Ln, s_LR, s_LC, zleT, zleF, zltT, zltF, zeqT, zeqF, nzleT, nzleF, nzltT, nzltF, nzeqT, nzeqF, znleT, znleF, znltT, znltF, zneqT, zneqF, z_add, z_sub, z_mul, z_neg, z_an, z_na, z_sn, z_ns, z_mn, z_nm]
    · rw [if_neg c]
      simp (disch := omega) only [k_let, Option.bind_some, ↓reduceIte, eq_self, true_or, or_true, n01_0, n01_1, kb_or, kb_0T, kb_0F, vn_0, vn_1, vn_k, nl_0, nl_1, nl_2, nl_3, nl_4, nl_5, nl_6, nl_7, nl_8, nl_9, nl_10, nl_11, nl_12, nl_13, nl_14, nl_15, nl_16, nl_20, nl_21, nl_22, nl_23, nl_24, nl_25, nl_26, nl_27, nl_28, nl_29, nl_30, nl_31, nl_32, nl_40, nl_41, nl_42, nl_43, nl_45, nl_47, nl_48, nl_50, nl_57, nl_59, nl_60, nl_61, nl_62, nl_63, nl_64, nl_91, nl_93, nl_94, nl_97, nl_98, nl_100, nl_110, nl_122, nl_130, nl_144, nl_160, nl_240, nl_241, nl_255, nl_256, nl_400, nl_800, nl_900, nl_999, nl_1000, nl_1001, nl_1024, nl_1103, nl_1928, nl_4321, nl_5560, nl_12345, nl_1000000, nl_1000003, nl_252645135, nl_858993459, nl_1431655765, nl_1000000000, nI_add, pk_mul, n_sub, n_neg, n_cl, leT, leF, ltT, ltF, eqT, eqF, kbT, s_II, s_In, s_IJ, s_IA, s_IL, s_IR, s_IC, s_JI, s_JJ, s_Jn, s_JA, s_JL, s_JR, s_JC, s_AI, s_AJ, s_AA, s_An, s_AL, s_AR, s_AC, s_LI, s_LJ, s_LA, s_LL, s_Ln, s_LR, s_LC, h42]
      rw [if_neg (show ¬ its = iZ (-((1 : Nat) : Int)) from c)]
      by_cases c2 : 12 ≤ mm
      · rw [if_pos c2, if_pos (by rw [n_le (by omega) (by omega)]; exact c2)]
        rfl
      · rw [if_neg c2, if_neg (by rw [n_le (by omega) (by omega)]; exact c2)]
        rfl
  | succ m ih =>
    intro f k its hk hf
    obtain ⟨f, rfl⟩ : ∃ j, f = j + 1 := ⟨f - 1, by omega⟩
    have hv : ∀ i, i < 3 → hdL.getD i 0 = nvL.getD i 0 := by decide +kernel
    have e := hw k (by omega)
    rw [hv k (by omega)] at e
    rw [f_X12_readClause_4]
    unfold f_X12_readClause_27
    simp (disch := omega) only [k_let, Option.bind_some, ↓reduceIte, eq_self, true_or, or_true, n01_0, n01_1, kb_or, kb_0T, kb_0F, vn_0, vn_1, vn_k, nl_0, nl_1, nl_2, nl_3, nl_4, nl_5, nl_6, nl_7, nl_8, nl_9, nl_10, nl_11, nl_12, nl_13, nl_14, nl_15, nl_16, nl_20, nl_21, nl_22, nl_23, nl_24, nl_25, nl_26, nl_27, nl_28, nl_29, nl_30, nl_31, nl_32, nl_40, nl_41, nl_42, nl_43, nl_45, nl_47, nl_48, nl_50, nl_57, nl_59, nl_60, nl_61, nl_62, nl_63, nl_64, nl_91, nl_93, nl_94, nl_97, nl_98, nl_100, nl_110, nl_122, nl_130, nl_144, nl_160, nl_240, nl_241, nl_255, nl_256, nl_400, nl_800, nl_900, nl_999, nl_1000, nl_1001, nl_1024, nl_1103, nl_1928, nl_4321, nl_5560, nl_12345, nl_1000000, nl_1000003, nl_252645135, nl_858993459, nl_1431655765, nl_1000000000, nI_add, pk_mul, n_sub, n_neg, n_cl, leT, leF, ltT, ltF, eqT, eqF, kbT, s_II, s_In, s_IJ, s_IA, s_IL, s_IR, s_IC, s_JI, s_JJ, s_Jn, s_JA, s_JL, s_JR, s_JC, s_AI, s_AJ, s_AA, s_An, s_AL, s_AR, s_AC, s_LI, s_LJ, s_LA, s_LL, s_Ln, s_LR, s_LC, e]
    rw [e_isWord hM (by omega)]
    have ee : hdF t n a (m + 1) k its = hdF t n a m (k + 1) (if isW t n a k = true then nI k else its) := rfl
    rw [ee]
    cases isW t n a k with
    | true =>
      simp (disch := omega) only [k_let, Option.bind_some, ↓reduceIte, eq_self, true_or, or_true, n01_0, n01_1, kb_or, kb_0T, kb_0F, vn_0, vn_1, vn_k, nl_0, nl_1, nl_2, nl_3, nl_4, nl_5, nl_6, nl_7, nl_8, nl_9, nl_10, nl_11, nl_12, nl_13, nl_14, nl_15, nl_16, nl_20, nl_21, nl_22, nl_23, nl_24, nl_25, nl_26, nl_27, nl_28, nl_29, nl_30, nl_31, nl_32, nl_40, nl_41, nl_42, nl_43, nl_45, nl_47, nl_48, nl_50, nl_57, nl_59, nl_60, nl_61, nl_62, nl_63, nl_64, nl_91, nl_93, nl_94, nl_97, nl_98, nl_100, nl_110, nl_122, nl_130, nl_144, nl_160, nl_240, nl_241, nl_255, nl_256, nl_400, nl_800, nl_900, nl_999, nl_1000, nl_1001, nl_1024, nl_1103, nl_1928, nl_4321, nl_5560, nl_12345, nl_1000000, nl_1000003, nl_252645135, nl_858993459, nl_1431655765, nl_1000000000, nI_add, pk_mul, n_sub, n_neg, n_cl, kB_t]
      exact ih f (k + 1) _ (by omega) (by omega)
    | false =>
      simp (disch := omega) only [k_let, Option.bind_some, ↓reduceIte, eq_self, true_or, or_true, n01_0, n01_1, kb_or, kb_0T, kb_0F, vn_0, vn_1, vn_k, nl_0, nl_1, nl_2, nl_3, nl_4, nl_5, nl_6, nl_7, nl_8, nl_9, nl_10, nl_11, nl_12, nl_13, nl_14, nl_15, nl_16, nl_20, nl_21, nl_22, nl_23, nl_24, nl_25, nl_26, nl_27, nl_28, nl_29, nl_30, nl_31, nl_32, nl_40, nl_41, nl_42, nl_43, nl_45, nl_47, nl_48, nl_50, nl_57, nl_59, nl_60, nl_61, nl_62, nl_63, nl_64, nl_91, nl_93, nl_94, nl_97, nl_98, nl_100, nl_110, nl_122, nl_130, nl_144, nl_160, nl_240, nl_241, nl_255, nl_256, nl_400, nl_800, nl_900, nl_999, nl_1000, nl_1001, nl_1024, nl_1103, nl_1928, nl_4321, nl_5560, nl_12345, nl_1000000, nl_1000003, nl_252645135, nl_858993459, nl_1431655765, nl_1000000000, nI_add, pk_mul, n_sub, n_neg, n_cl, kB_f]
      exact ih f (k + 1) _ (by omega) (by omega)
