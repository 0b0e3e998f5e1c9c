/-! part 81: the class's bands -/
/-- the table of lengths up to n -/
def Tb (U : St) (n : Nat) (low : Nat → Option Nat) : Prop := ∀ e, e ≤ n → gA U 40 e = oI (low e)
theorem oI_none : oI none = iZ (-((1 : Nat) : Int)) := rfl
theorem oI_some (s : Nat) : oI (some s) = nI s := rfl
def bsF (low : Nat → Option Nat) (A e : Nat) : Option Nat := if e ≤ A then low e else none
theorem l_sh30 {S : St} {d tk A : Nat} (hA : A + tk < 4321) : ∀ (m f y : Nat) (U : St), y + m = A + tk + 1 → m < f → A < y → Fr [] [] [40] [] S U → (∀ e, gA U 40 e = if A < e ∧ e < y then iZ (-((1 : Nat) : Int)) else gA S 40 e) →
    ∃ W, f_X0_share_30 f (nI d) (nI tk) (nI A) (nI (A + tk)) (nI y) U = f_X0_share_54 FU (nI d) (nI tk) (nI A) W ∧ Fr [] [] [40] [] S W ∧ ∀ e, gA W 40 e = if A < e ∧ e < A + tk + 1 then iZ (-((1 : Nat) : Int)) else gA S 40 e := by
  intro m
  induction m with
  | zero =>
    intro f y U hy hf hAy hF hx
    obtain ⟨f, rfl⟩ : ∃ g, f = g + 1 := ⟨f - 1, by omega⟩
    have : y = A + tk + 1 := by omega
    subst this
    refine ⟨U, ?_, hF, hx⟩
    rw [f_X0_share_30]
    simp (disch := omega) only [k_let, Option.bind_some, ↓reduceIte, eq_self, true_or, or_true, n01_0, n01_1, kb_or, kb_0T, kb_0F, vn_0, vn_1, vn_k, nl_0, nl_1, nl_2, nl_3, nl_4, nl_5, nl_6, nl_7, nl_8, nl_9, nl_10, nl_11, nl_12, nl_13, nl_14, nl_15, nl_16, nl_20, nl_21, nl_22, nl_23, nl_24, nl_25, nl_26, nl_27, nl_28, nl_29, nl_30, nl_31, nl_32, nl_40, nl_41, nl_42, nl_43, nl_45, nl_47, nl_48, nl_50, nl_57, nl_59, nl_60, nl_61, nl_62, nl_63, nl_64, nl_91, nl_93, nl_94, nl_97, nl_98, nl_100, nl_110, nl_122, nl_130, nl_144, nl_160, nl_240, nl_241, nl_255, nl_256, nl_400, nl_800, nl_900, nl_999, nl_1000, nl_1001, nl_1024, nl_1103, nl_1928, nl_4321, nl_5560, nl_12345, nl_1000000, nl_1000003, nl_252645135, nl_858993459, nl_1431655765, nl_1000000000, nI_add, pk_mul, n_sub, n_neg, n_cl, leT, leF, ltT, ltF, eqT, eqF, kbT, s_II, s_In, s_IJ, s_IA, s_IL, s_IR, s_IC, s_JI, s_JJ, s_Jn, s_JA, s_JL, s_JR, s_JC, s_AI, s_AJ, s_AA, s_An, s_AL, s_AR, s_AC, s_LI, s_LJ, s_LA, s_LL, s_Ln, s_LR, s_LC]
  | succ m ih =>
    intro f y U hy hf hAy hF hx
    obtain ⟨f, rfl⟩ : ∃ g, f = g + 1 := ⟨f - 1, by omega⟩
    have e : f_X0_share_30 (f + 1) (nI d) (nI tk) (nI A) (nI (A + tk)) (nI y) U = f_X0_share_30 f (nI d) (nI tk) (nI A) (nI (A + tk)) (nI (y + 1)) (sA U 40 y (iZ (-((1 : Nat) : Int)))) := by
      rw [f_X0_share_30]
      simp (disch := omega) only [k_let, Option.bind_some, ↓reduceIte, eq_self, true_or, or_true, n01_0, n01_1, kb_or, kb_0T, kb_0F, vn_0, vn_1, vn_k, nl_0, nl_1, nl_2, nl_3, nl_4, nl_5, nl_6, nl_7, nl_8, nl_9, nl_10, nl_11, nl_12, nl_13, nl_14, nl_15, nl_16, nl_20, nl_21, nl_22, nl_23, nl_24, nl_25, nl_26, nl_27, nl_28, nl_29, nl_30, nl_31, nl_32, nl_40, nl_41, nl_42, nl_43, nl_45, nl_47, nl_48, nl_50, nl_57, nl_59, nl_60, nl_61, nl_62, nl_63, nl_64, nl_91, nl_93, nl_94, nl_97, nl_98, nl_100, nl_110, nl_122, nl_130, nl_144, nl_160, nl_240, nl_241, nl_255, nl_256, nl_400, nl_800, nl_900, nl_999, nl_1000, nl_1001, nl_1024, nl_1103, nl_1928, nl_4321, nl_5560, nl_12345, nl_1000000, nl_1000003, nl_252645135, nl_858993459, nl_1431655765, nl_1000000000, nI_add, pk_mul, n_sub, n_neg, n_cl, leT, leF, ltT, ltF, eqT, eqF, kbT, s_II, s_In, s_IJ, s_IA, s_IL, s_IR, s_IC, s_JI, s_JJ, s_Jn, s_JA, s_JL, s_JR, s_JC, s_AI, s_AJ, s_AA, s_An, s_AL, s_AR, s_AC, s_LI, s_LJ, s_LA, s_LL, s_Ln, s_LR, s_LC]
    rw [e]
    refine ih f (y + 1) _ (by omega) (by omega) (by omega) (hF.sA rfl _ _) (fun e => ?_)
    rw [s_AA, u_a]
    by_cases q : e = y
    · rw [if_pos q, if_pos (by omega)]
    · rw [if_neg q, hx e]
      by_cases z : A < e ∧ e < y
      · rw [if_pos z, if_pos (by omega)]
      · rw [if_neg z, if_neg (by omega)]
theorem l_sh54 {S : St} {low : Nat → Option Nat} {d tk A : Nat} (hA : A + tk < 4321) (htk : 1 ≤ tk) (hd : d < 16) (hl : ∀ e s, e ≤ A → low e = some s → s < 65536) : ∀ (m f : Nat) (U : St), m ≤ A + 1 → m < f → Fr [] [] [40] [] S U → (∀ e, e ≤ A + tk → gA U 40 e = oI (if tk ≤ e ∧ m ≤ e - tk then shl low A tk d e else bsF low A e)) →
    ∃ W, f_X0_share_54 f (nI d) (nI tk) (iZ ((m : Int) - 1)) U = some W ∧ Fr [] [] [40] [] S W ∧ Tb W (A + tk) (shl low A tk d) := by
  intro m
  induction m with
  | zero =>
    intro f U hm hf hF hx
    obtain ⟨f, rfl⟩ : ∃ g, f = g + 1 := ⟨f - 1, by omega⟩
    refine ⟨U, ?_, hF, fun e he => ?_⟩
    · rw [f_X0_share_54]
      simp (disch := omega) only [k_let, Option.bind_some, ↓reduceIte, eq_self, true_or, or_true, n01_0, n01_1, kb_or, kb_0T, kb_0F, vn_0, vn_1, vn_k, nl_0, nl_1, nl_2, nl_3, nl_4, nl_5, nl_6, nl_7, nl_8, nl_9, nl_10, nl_11, nl_12, nl_13, nl_14, nl_15, nl_16, nl_20, nl_21, nl_22, nl_23, nl_24, nl_25, nl_26, nl_27, nl_28, nl_29, nl_30, nl_31, nl_32, nl_40, nl_41, nl_42, nl_43, nl_45, nl_47, nl_48, nl_50, nl_57, nl_59, nl_60, nl_61, nl_62, nl_63, nl_64, nl_91, nl_93, nl_94, nl_97, nl_98, nl_100, nl_110, nl_122, nl_130, nl_144, nl_160, nl_240, nl_241, nl_255, nl_256, nl_400, nl_800, nl_900, nl_999, nl_1000, nl_1001, nl_1024, nl_1103, nl_1928, nl_4321, nl_5560, nl_12345, nl_1000000, nl_1000003, nl_252645135, nl_858993459, nl_1431655765, nl_1000000000, nI_add, pk_mul, n_sub, n_neg, n_cl, leT, leF, ltT, ltF, eqT, eqF, kbT, s_II, s_In, s_IJ, s_IA, s_IL, s_IR, s_IC, s_JI, s_JJ, s_Jn, s_JA, s_JL, s_JR, s_JC, s_AI, s_AJ, s_AA, s_An, s_AL, s_AR, s_AC, s_LI, s_LJ, s_LA, s_LL, s_Ln, s_LR, s_LC, zleT, zleF, zltT, zltF, zeqT, zeqF, nzleT, nzleF, nzltT, nzltF, nzeqT, nzeqF, znleT, znleF, znltT, znltF, zneqT, zneqF, z_add, z_sub, z_mul, z_neg, z_an, z_na, z_sn, z_ns, z_mn, z_nm]
    · rw [hx e he]
      by_cases c : tk ≤ e
      · rw [if_pos ⟨c, Nat.zero_le _⟩]
      · rw [if_neg (fun q => c q.1)]
        unfold shl bsF
        cases (if e ≤ A then low e else none) with
        | some s => rfl
        | none => show oI none = oI (if tk ≤ e ∧ e - tk ≤ A then _ else none); rw [if_neg (fun q => c q.1)]
  | succ m ih =>
    intro f U hm hf hF hx
    obtain ⟨f, rfl⟩ : ∃ g, f = g + 1 := ⟨f - 1, by omega⟩
    have ez : iZ (((m + 1 : Nat) : Int) - 1) = nI m := by rw [n_Z]; congr 1; omega
    have em : nI m + iZ (-((1 : Nat) : Int)) = iZ ((m : Int) - 1) := by rw [z_na]; rfl
    have g0 : gA U 40 m = oI (low m) := by
      rw [hx m (by omega), if_neg (by omega)]
      unfold bsF
      rw [if_pos (by omega)]
    have g1 : gA U 40 (m + tk) = oI (bsF low A (m + tk)) := by rw [hx (m + tk) (by omega), if_neg (by omega)]
    have hs1 : shl low A tk d (m + tk) = match bsF low A (m + tk) with
        | some s => some s
        | none => (low m).map (fun s => s ||| 2 ^ d) := by
      unfold shl bsF
      cases (if m + tk ≤ A then low (m + tk) else none) with
      | some s => rfl
      | none =>
        show (if tk ≤ m + tk ∧ m + tk - tk ≤ A then (low (m + tk - tk)).map (fun s => s ||| 2 ^ d) else none) = _
        rw [if_pos ⟨by omega, by omega⟩, Nat.add_sub_cancel]
    have fin : ∀ {T : St}, Fr [] [] [40] [] S T → gA T 40 (m + tk) = oI (shl low A tk d (m + tk)) → (∀ e, e ≠ m + tk → gA T 40 e = gA U 40 e) → ∃ W, f_X0_share_54 f (nI d) (nI tk) (iZ ((m : Int) - 1)) T = some W ∧ Fr [] [] [40] [] S W ∧ Tb W (A + tk) (shl low A tk d) := fun {T} fT h1 h2 => by
      refine ih f T (by omega) (by omega) fT (fun e he => ?_)
      by_cases q : e = m + tk
      · rw [q, h1, if_pos (by omega)]
      · rw [h2 e q, hx e he]
        by_cases z : tk ≤ e ∧ m + 1 ≤ e - tk
        · rw [if_pos z, if_pos (by omega)]
        · rw [if_neg z, if_neg (by omega)]
    rw [ez]
    cases e0 : low m with
    | none =>
      rw [e0, oI_none] at g0
      obtain ⟨W, w1, w2, w3⟩ := fin hF (by
        rw [g1, hs1, e0]
        cases bsF low A (m + tk) with
        | some s => rfl
        | none => rfl) (fun _ _ => rfl)
      refine ⟨W, ?_, w2, w3⟩
      rw [← w1, f_X0_share_54]
      simp (disch := omega) only [k_let, Option.bind_some, ↓reduceIte, eq_self, true_or, or_true, n01_0, n01_1, kb_or, kb_0T, kb_0F, vn_0, vn_1, vn_k, nl_0, nl_1, nl_2, nl_3, nl_4, nl_5, nl_6, nl_7, nl_8, nl_9, nl_10, nl_11, nl_12, nl_13, nl_14, nl_15, nl_16, nl_20, nl_21, nl_22, nl_23, nl_24, nl_25, nl_26, nl_27, nl_28, nl_29, nl_30, nl_31, nl_32, nl_40, nl_41, nl_42, nl_43, nl_45, nl_47, nl_48, nl_50, nl_57, nl_59, nl_60, nl_61, nl_62, nl_63, nl_64, nl_91, nl_93, nl_94, nl_97, nl_98, nl_100, nl_110, nl_122, nl_130, nl_144, nl_160, nl_240, nl_241, nl_255, nl_256, nl_400, nl_800, nl_900, nl_999, nl_1000, nl_1001, nl_1024, nl_1103, nl_1928, nl_4321, nl_5560, nl_12345, nl_1000000, nl_1000003, nl_252645135, nl_858993459, nl_1431655765, nl_1000000000, nI_add, pk_mul, n_sub, n_neg, n_cl, leT, leF, ltT, ltF, eqT, eqF, kbT, s_II, s_In, s_IJ, s_IA, s_IL, s_IR, s_IC, s_JI, s_JJ, s_Jn, s_JA, s_JL, s_JR, s_JC, s_AI, s_AJ, s_AA, s_An, s_AL, s_AR, s_AC, s_LI, s_LJ, s_LA, s_LL, s_Ln, s_LR, s_LC, zleT, zleF, zltT, zltF, zeqT, zeqF, nzleT, nzleF, nzltT, nzltF, nzeqT, nzeqF, znleT, znleF, znltT, znltF, zneqT, zneqF, z_add, z_sub, z_mul, z_neg, z_an, z_na, z_sn, z_ns, z_mn, z_nm, g0, f_X0_share_103]
      rfl
    | some s =>
      rw [e0, oI_some] at g0
      have hsl := hl m s (by omega) e0
      cases e1 : bsF low A (m + tk) with
      | some s1 =>
        rw [e1, oI_some] at g1
        have hs1l : s1 < 65536 := by
          unfold bsF at e1
          by_cases c : m + tk ≤ A
          · rw [if_pos c] at e1; exact hl _ _ c e1
          · rw [if_neg c] at e1; cases e1
        obtain ⟨W, w1, w2, w3⟩ := fin hF (by rw [g1, hs1, e1]; rfl) (fun _ _ => rfl)
        refine ⟨W, ?_, w2, w3⟩
        rw [← w1, f_X0_share_54]
        simp (disch := omega) only [k_let, Option.bind_some, ↓reduceIte, eq_self, true_or, or_true, n01_0, n01_1, kb_or, kb_0T, kb_0F, vn_0, vn_1, vn_k, nl_0, nl_1, nl_2, nl_3, nl_4, nl_5, nl_6, nl_7, nl_8, nl_9, nl_10, nl_11, nl_12, nl_13, nl_14, nl_15, nl_16, nl_20, nl_21, nl_22, nl_23, nl_24, nl_25, nl_26, nl_27, nl_28, nl_29, nl_30, nl_31, nl_32, nl_40, nl_41, nl_42, nl_43, nl_45, nl_47, nl_48, nl_50, nl_57, nl_59, nl_60, nl_61, nl_62, nl_63, nl_64, nl_91, nl_93, nl_94, nl_97, nl_98, nl_100, nl_110, nl_122, nl_130, nl_144, nl_160, nl_240, nl_241, nl_255, nl_256, nl_400, nl_800, nl_900, nl_999, nl_1000, nl_1001, nl_1024, nl_1103, nl_1928, nl_4321, nl_5560, nl_12345, nl_1000000, nl_1000003, nl_252645135, nl_858993459, nl_1431655765, nl_1000000000, nI_add, pk_mul, n_sub, n_neg, n_cl, leT, leF, ltT, ltF, eqT, eqF, kbT, s_II, s_In, s_IJ, s_IA, s_IL, s_IR, s_IC, s_JI, s_JJ, s_Jn, s_JA, s_JL, s_JR, s_JC, s_AI, s_AJ, s_AA, s_An, s_AL, s_AR, s_AC, s_LI, s_LJ, s_LA, s_LL, s_Ln, s_LR, s_LC, zleT, zleF, zltT, zltF, zeqT, zeqF, nzleT, nzleF, nzltT, nzltF, nzeqT, nzeqF, znleT, znleF, znltT, znltF, zneqT, zneqF, z_add, z_sub, z_mul, z_neg, z_an, z_na, z_sn, z_ns, z_mn, z_nm, g0, g1, f_X0_share_103]
        rfl
      | none =>
        rw [e1, oI_none] at g1
        obtain ⟨W, w1, w2, w3⟩ := fin (T := sA U 40 (m + tk) (nI (s ||| 2 ^ d))) (hF.sA rfl _ _) (by rw [s_AA, u_s, hs1, e1, e0]; rfl) (fun e he => by rw [s_AA, u_n he])
        refine ⟨W, ?_, w2, w3⟩
        rw [← w1, f_X0_share_54]
        simp (disch := omega) only [k_let, Option.bind_some, ↓reduceIte, eq_self, true_or, or_true, n01_0, n01_1, kb_or, kb_0T, kb_0F, vn_0, vn_1, vn_k, nl_0, nl_1, nl_2, nl_3, nl_4, nl_5, nl_6, nl_7, nl_8, nl_9, nl_10, nl_11, nl_12, nl_13, nl_14, nl_15, nl_16, nl_20, nl_21, nl_22, nl_23, nl_24, nl_25, nl_26, nl_27, nl_28, nl_29, nl_30, nl_31, nl_32, nl_40, nl_41, nl_42, nl_43, nl_45, nl_47, nl_48, nl_50, nl_57, nl_59, nl_60, nl_61, nl_62, nl_63, nl_64, nl_91, nl_93, nl_94, nl_97, nl_98, nl_100, nl_110, nl_122, nl_130, nl_144, nl_160, nl_240, nl_241, nl_255, nl_256, nl_400, nl_800, nl_900, nl_999, nl_1000, nl_1001, nl_1024, nl_1103, nl_1928, nl_4321, nl_5560, nl_12345, nl_1000000, nl_1000003, nl_252645135, nl_858993459, nl_1431655765, nl_1000000000, nI_add, pk_mul, n_sub, n_neg, n_cl, leT, leF, ltT, ltF, eqT, eqF, kbT, s_II, s_In, s_IJ, s_IA, s_IL, s_IR, s_IC, s_JI, s_JJ, s_Jn, s_JA, s_JL, s_JR, s_JC, s_AI, s_AJ, s_AA, s_An, s_AL, s_AR, s_AC, s_LI, s_LJ, s_LA, s_LL, s_Ln, s_LR, s_LC, zleT, zleF, zltT, zltF, zeqT, zeqF, nzleT, nzleF, nzltT, nzltF, nzeqT, nzeqF, znleT, znleF, znltT, znltF, zneqT, zneqF, z_add, z_sub, z_mul, z_neg, z_an, z_na, z_sn, z_ns, z_mn, z_nm, g0, g1, n_shl1, n_or, f_X0_share_103]
        rfl
theorem e_share {S : St} {low : Nat → Option Nat} {d tk A : Nat} (hA : A + tk < 4321) (htk : 1 ≤ tk) (hd : d < 16) (hl : ∀ e s, e ≤ A → low e = some s → s < 65536) (h : Tb S A low) : ∃ W, f_X0_share (nI d) (nI tk) (nI A) S = some W ∧ Fr [] [] [40] [] S W ∧ Tb W (A + tk) (shl low A tk d) := by
  obtain ⟨B, b1, b2, b3⟩ := l_sh30 (S := S) (d := d) hA tk FU (A + 1) S (by omega) (FU_ge (by omega)) (by omega) (Fr.refl S) (fun e => by rw [if_neg (by omega)])
  obtain ⟨W, w1, w2, w3⟩ := l_sh54 (S := S) (low := low) hA htk hd hl (A + 1) FU B (Nat.le_refl _) (FU_ge (by omega)) b2 (fun e he => by
    rw [b3 e, if_neg (show ¬ (tk ≤ e ∧ A + 1 ≤ e - tk) by omega)]
    unfold bsF
    by_cases c : e ≤ A
    · rw [if_neg (by omega), if_pos c]; exact h e c
    · rw [if_pos (by omega), if_neg c]; rfl)
  refine ⟨W, ?_, w2, w3⟩
  have ez : iZ (((A + 1 : Nat) : Int) - 1) = nI A := by rw [n_Z]; congr 1; omega
  rw [ez] at w1
  rw [← w1, ← b1]
  unfold f_X0_share f_X0_share_24
  simp (disch := omega) only [k_let, Option.bind_some, ↓reduceIte, eq_self, true_or, or_true, n01_0, n01_1, kb_or, kb_0T, kb_0F, vn_0, vn_1, vn_k, nl_0, nl_1, nl_2, nl_3, nl_4, nl_5, nl_6, nl_7, nl_8, nl_9, nl_10, nl_11, nl_12, nl_13, nl_14, nl_15, nl_16, nl_20, nl_21, nl_22, nl_23, nl_24, nl_25, nl_26, nl_27, nl_28, nl_29, nl_30, nl_31, nl_32, nl_40, nl_41, nl_42, nl_43, nl_45, nl_47, nl_48, nl_50, nl_57, nl_59, nl_60, nl_61, nl_62, nl_63, nl_64, nl_91, nl_93, nl_94, nl_97, nl_98, nl_100, nl_110, nl_122, nl_130, nl_144, nl_160, nl_240, nl_241, nl_255, nl_256, nl_400, nl_800, nl_900, nl_999, nl_1000, nl_1001, nl_1024, nl_1103, nl_1928, nl_4321, nl_5560, nl_12345, nl_1000000, nl_1000003, nl_252645135, nl_858993459, nl_1431655765, nl_1000000000, nI_add, pk_mul, n_sub, n_neg, n_cl, leT, leF, ltT, ltF, eqT, eqF, kbT, s_II, s_In, s_IJ, s_IA, s_IL, s_IR, s_IC, s_JI, s_JJ, s_Jn, s_JA, s_JL, s_JR, s_JC, s_AI, s_AJ, s_AA, s_An, s_AL, s_AR, s_AC, s_LI, s_LJ, s_LA, s_LL, s_Ln, s_LR, s_LC]
/-- the best among the sets of the lengths below x -/
def BxB (r : Nat → Int32) (V : Nat → Vd) (k x L f : Nat) : Prop :=
  (f &&& hoM r V k (nD r) = f ∧ L = lgF (hoA r V k (nD r)) (wtF r f (nD r))) ∧ ∀ s, s &&& hoM r V k (nD r) = s → wtF r s (nD r) < x → L < lgF (hoA r V k (nD r)) (wtF r s (nD r)) ∨ (L = lgF (hoA r V k (nD r)) (wtF r s (nD r)) ∧ f ≤ s)
theorem e_choose {r : Nat → Int32} {V : Nat → Vd} {k : Nat} {low : Nat → Option Nat} {S : St} (w : Wf r) (hlow : LowO r V k (nD r) low) (hT : Tb S (hoA r V k (nD r)) low) : ∃ W L f, f_X0_choose (nI (hoA r V k (nD r))) S = some W ∧ Fr [25, 26] [] [] [] S W ∧ gI W 25 = nI L ∧ gI W 26 = nI f ∧ BestB r V k L f ∧ L ≤ 4320 ∧ f < 65536 := by
  have h16 := w.n16
  have hAb := hoA_bd (V := V) w k (Nat.le_refl (nD r))
  have hM : hoM r V k (nD r) < 65536 := Nat.lt_of_lt_of_le (hoM_lt r V k (nD r)) (Nat.pow_le_pow_right (n := 2) (j := 16) (by decide) h16)
  generalize hAA : hoA r V k (nD r) = A at *
  have key : ∀ (m g x : Nat) (U : St) (L f : Nat), x + m = A + 1 → m < g → Fr [25, 26] [] [] [] S U → gI U 25 = nI L → gI U 26 = nI f → BxB r V k x L f → ∃ W L f, f_X0_choose_12 g (nI A) (nI x) U = some W ∧ Fr [25, 26] [] [] [] S W ∧ gI W 25 = nI L ∧ gI W 26 = nI f ∧ BxB r V k (A + 1) L f := by
    intro m
    induction m with
    | zero =>
      intro g x U L f hx hg hF h25 h26 hB
      obtain ⟨g, rfl⟩ : ∃ j, g = j + 1 := ⟨g - 1, by omega⟩
      have : x = A + 1 := by omega
      subst this
      refine ⟨U, L, f, ?_, hF, h25, h26, hB⟩
      rw [f_X0_choose_12, f_X0_choose_90]
      simp (disch := omega) only [k_let, Option.bind_some, ↓reduceIte, eq_self, true_or, or_true, n01_0, n01_1, kb_or, kb_0T, kb_0F, vn_0, vn_1, vn_k, nl_0, nl_1, nl_2, nl_3, nl_4, nl_5, nl_6, nl_7, nl_8, nl_9, nl_10, nl_11, nl_12, nl_13, nl_14, nl_15, nl_16, nl_20, nl_21, nl_22, nl_23, nl_24, nl_25, nl_26, nl_27, nl_28, nl_29, nl_30, nl_31, nl_32, nl_40, nl_41, nl_42, nl_43, nl_45, nl_47, nl_48, nl_50, nl_57, nl_59, nl_60, nl_61, nl_62, nl_63, nl_64, nl_91, nl_93, nl_94, nl_97, nl_98, nl_100, nl_110, nl_122, nl_130, nl_144, nl_160, nl_240, nl_241, nl_255, nl_256, nl_400, nl_800, nl_900, nl_999, nl_1000, nl_1001, nl_1024, nl_1103, nl_1928, nl_4321, nl_5560, nl_12345, nl_1000000, nl_1000003, nl_252645135, nl_858993459, nl_1431655765, nl_1000000000, nI_add, pk_mul, n_sub, n_neg, n_cl, leT, leF, ltT, ltF, eqT, eqF, kbT, s_II, s_In, s_IJ, s_IA, s_IL, s_IR, s_IC, s_JI, s_JJ, s_Jn, s_JA, s_JL, s_JR, s_JC, s_AI, s_AJ, s_AA, s_An, s_AL, s_AR, s_AC, s_LI, s_LJ, s_LA, s_LL, s_Ln, s_LR, s_LC]
    | succ m ih =>
      intro g x U L f hx hg hF h25 h26 hB
      obtain ⟨g, rfl⟩ : ∃ j, g = j + 1 := ⟨g - 1, by omega⟩
      have hxA : x ≤ A := by omega
      have g40 : gA U 40 x = oI (low x) := by rw [hF.A rfl]; exact hT x hxA
      have hLb : L ≤ A := by
        have := hB.1.2
        have := wt_le hB.1.1
        rw [hAA] at *
        unfold lgF at *
        omega
      have hfb : f < 65536 := sub_lt (m := 16) hB.1.1 hM
      have elg : (if nI x < nI (A - x) then nI (A - x) else nI x) = nI (lgF A x) := by
        unfold lgF
        by_cases c : x < A - x
        · simp (disch := omega) only [leT, leF, ltT, ltF, eqT, eqF, kbT, ↓reduceIte] <;> (congr 1; omega)
        · simp (disch := omega) only [leT, leF, ltT, ltF, eqT, eqF, kbT, ↓reduceIte] <;> (congr 1; omega)
      have hlg : lgF A x ≤ A := by unfold lgF; omega
      cases e0 : low x with
      | none =>
        rw [e0, oI_none] at g40
        have e : f_X0_choose_12 (g + 1) (nI A) (nI x) U = f_X0_choose_12 g (nI A) (nI (x + 1)) U := by
          rw [f_X0_choose_12]
          simp (disch := omega) only [k_let, Option.bind_some, ↓reduceIte, eq_self, true_or, or_true, n01_0, n01_1, kb_or, kb_0T, kb_0F, vn_0, vn_1, vn_k, nl_0, nl_1, nl_2, nl_3, nl_4, nl_5, nl_6, nl_7, nl_8, nl_9, nl_10, nl_11, nl_12, nl_13, nl_14, nl_15, nl_16, nl_20, nl_21, nl_22, nl_23, nl_24, nl_25, nl_26, nl_27, nl_28, nl_29, nl_30, nl_31, nl_32, nl_40, nl_41, nl_42, nl_43, nl_45, nl_47, nl_48, nl_50, nl_57, nl_59, nl_60, nl_61, nl_62, nl_63, nl_64, nl_91, nl_93, nl_94, nl_97, nl_98, nl_100, nl_110, nl_122, nl_130, nl_144, nl_160, nl_240, nl_241, nl_255, nl_256, nl_400, nl_800, nl_900, nl_999, nl_1000, nl_1001, nl_1024, nl_1103, nl_1928, nl_4321, nl_5560, nl_12345, nl_1000000, nl_1000003, nl_252645135, nl_858993459, nl_1431655765, nl_1000000000, nI_add, pk_mul, n_sub, n_neg, n_cl, leT, leF, ltT, ltF, eqT, eqF, kbT, s_II, s_In, s_IJ, s_IA, s_IL, s_IR, s_IC, s_JI, s_JJ, s_Jn, s_JA, s_JL, s_JR, s_JC, s_AI, s_AJ, s_AA, s_An, s_AL, s_AR, s_AC, s_LI, s_LJ, s_LA, s_LL, s_Ln, s_LR, s_LC, zleT, zleF, zltT, zltF, zeqT, zeqF, nzleT, nzleF, nzltT, nzltF, nzeqT, nzeqF, znleT, znleF, znltT, znltF, zneqT, zneqF, z_add, z_sub, z_mul, z_neg, z_an, z_na, z_sn, z_ns, z_mn, z_nm, g40, f_X0_choose_84]
        rw [e]
        refine ih g (x + 1) U L f (by omega) (by omega) hF h25 h26 ⟨hB.1, fun s hs hw => ?_⟩
        by_cases q : wtF r s (nD r) = x
        · obtain ⟨s0, a, -⟩ := (hlow x (by rw [hAA]; exact hxA)).2 s hs q
          rw [e0] at a; cases a
        · exact hB.2 s hs (by omega)
      | some s0 =>
        rw [e0, oI_some] at g40
        obtain ⟨a1, a2⟩ := (hlow x (by rw [hAA]; exact hxA)).1 s0 e0
        have hs0 : s0 < 65536 := sub_lt (m := 16) a1 hM
        by_cases c : lgF A x < L ∨ (lgF A x = L ∧ s0 < f)
        · have e : f_X0_choose_12 (g + 1) (nI A) (nI x) U = f_X0_choose_12 g (nI A) (nI (x + 1)) (sI (sI U 25 (nI (lgF A x))) 26 (nI s0)) := by
            rw [f_X0_choose_12]
            rcases c with c | c
            · simp (disch := omega) only [k_let, Option.bind_some, ↓reduceIte, eq_self, true_or, or_true, n01_0, n01_1, kb_or, kb_0T, kb_0F, vn_0, vn_1, vn_k, nl_0, nl_1, nl_2, nl_3, nl_4, nl_5, nl_6, nl_7, nl_8, nl_9, nl_10, nl_11, nl_12, nl_13, nl_14, nl_15, nl_16, nl_20, nl_21, nl_22, nl_23, nl_24, nl_25, nl_26, nl_27, nl_28, nl_29, nl_30, nl_31, nl_32, nl_40, nl_41, nl_42, nl_43, nl_45, nl_47, nl_48, nl_50, nl_57, nl_59, nl_60, nl_61, nl_62, nl_63, nl_64, nl_91, nl_93, nl_94, nl_97, nl_98, nl_100, nl_110, nl_122, nl_130, nl_144, nl_160, nl_240, nl_241, nl_255, nl_256, nl_400, nl_800, nl_900, nl_999, nl_1000, nl_1001, nl_1024, nl_1103, nl_1928, nl_4321, nl_5560, nl_12345, nl_1000000, nl_1000003, nl_252645135, nl_858993459, nl_1431655765, nl_1000000000, nI_add, pk_mul, n_sub, n_neg, n_cl, leT, leF, ltT, ltF, eqT, eqF, kbT, s_II, s_In, s_IJ, s_IA, s_IL, s_IR, s_IC, s_JI, s_JJ, s_Jn, s_JA, s_JL, s_JR, s_JC, s_AI, s_AJ, s_AA, s_An, s_AL, s_AR, s_AC, s_LI, s_LJ, s_LA, s_LL, s_Ln, s_LR, s_LC, zleT, zleF, zltT, zltF, zeqT, zeqF, nzleT, nzleF, nzltT, nzltF, nzeqT, nzeqF, znleT, znleF, znltT, znltF, zneqT, zneqF, z_add, z_sub, z_mul, z_neg, z_an, z_na, z_sn, z_ns, z_mn, z_nm, g40, elg, h25, h26, f_X0_choose_73, f_X0_choose_84]
            · simp (disch := omega) only [k_let, Option.bind_some, ↓reduceIte, eq_self, true_or, or_true, n01_0, n01_1, kb_or, kb_0T, kb_0F, vn_0, vn_1, vn_k, nl_0, nl_1, nl_2, nl_3, nl_4, nl_5, nl_6, nl_7, nl_8, nl_9, nl_10, nl_11, nl_12, nl_13, nl_14, nl_15, nl_16, nl_20, nl_21, nl_22, nl_23, nl_24, nl_25, nl_26, nl_27, nl_28, nl_29, nl_30, nl_31, nl_32, nl_40, nl_41, nl_42, nl_43, nl_45, nl_47, nl_48, nl_50, nl_57, nl_59, nl_60, nl_61, nl_62, nl_63, nl_64, nl_91, nl_93, nl_94, nl_97, nl_98, nl_100, nl_110, nl_122, nl_130, nl_144, nl_160, nl_240, nl_241, nl_255, nl_256, nl_400, nl_800, nl_900, nl_999, nl_1000, nl_1001, nl_1024, nl_1103, nl_1928, nl_4321, nl_5560, nl_12345, nl_1000000, nl_1000003, nl_252645135, nl_858993459, nl_1431655765, nl_1000000000, nI_add, pk_mul, n_sub, n_neg, n_cl, leT, leF, ltT, ltF, eqT, eqF, kbT, s_II, s_In, s_IJ, s_IA, s_IL, s_IR, s_IC, s_JI, s_JJ, s_Jn, s_JA, s_JL, s_JR, s_JC, s_AI, s_AJ, s_AA, s_An, s_AL, s_AR, s_AC, s_LI, s_LJ, s_LA, s_LL, s_Ln, s_LR, s_LC, zleT, zleF, zltT, zltF, zeqT, zeqF, nzleT, nzleF, nzltT, nzltF, nzeqT, nzeqF, znleT, znleF, znltT, znltF, zneqT, zneqF, z_add, z_sub, z_mul, z_neg, z_an, z_na, z_sn, z_ns, z_mn, z_nm, g40, elg, h25, h26, f_X0_choose_73, f_X0_choose_84]
          rw [e]
          refine ih g (x + 1) _ (lgF A x) s0 (by omega) (by omega) ((hF.sI rfl _).sI rfl _) (by rw [s_In (by decide), s_II]) (s_II _ _ _) ⟨⟨a1, by rw [a2, hAA]⟩, fun s hs hw => ?_⟩
          by_cases q : wtF r s (nD r) = x
          · obtain ⟨s1, b1, b2⟩ := (hlow x (by rw [hAA]; exact hxA)).2 s hs q
            rw [e0] at b1
            cases b1
            rw [q, hAA]
            exact Or.inr ⟨rfl, b2⟩
          · have := hB.2 s hs (by omega)
            omega
        · have e : f_X0_choose_12 (g + 1) (nI A) (nI x) U = f_X0_choose_12 g (nI A) (nI (x + 1)) U := by
            rw [f_X0_choose_12]
            by_cases c2 : lgF A x = L
            · simp (disch := omega) only [k_let, Option.bind_some, ↓reduceIte, eq_self, true_or, or_true, n01_0, n01_1, kb_or, kb_0T, kb_0F, vn_0, vn_1, vn_k, nl_0, nl_1, nl_2, nl_3, nl_4, nl_5, nl_6, nl_7, nl_8, nl_9, nl_10, nl_11, nl_12, nl_13, nl_14, nl_15, nl_16, nl_20, nl_21, nl_22, nl_23, nl_24, nl_25, nl_26, nl_27, nl_28, nl_29, nl_30, nl_31, nl_32, nl_40, nl_41, nl_42, nl_43, nl_45, nl_47, nl_48, nl_50, nl_57, nl_59, nl_60, nl_61, nl_62, nl_63, nl_64, nl_91, nl_93, nl_94, nl_97, nl_98, nl_100, nl_110, nl_122, nl_130, nl_144, nl_160, nl_240, nl_241, nl_255, nl_256, nl_400, nl_800, nl_900, nl_999, nl_1000, nl_1001, nl_1024, nl_1103, nl_1928, nl_4321, nl_5560, nl_12345, nl_1000000, nl_1000003, nl_252645135, nl_858993459, nl_1431655765, nl_1000000000, nI_add, pk_mul, n_sub, n_neg, n_cl, leT, leF, ltT, ltF, eqT, eqF, kbT, s_II, s_In, s_IJ, s_IA, s_IL, s_IR, s_IC, s_JI, s_JJ, s_Jn, s_JA, s_JL, s_JR, s_JC, s_AI, s_AJ, s_AA, s_An, s_AL, s_AR, s_AC, s_LI, s_LJ, s_LA, s_LL, s_Ln, s_LR, s_LC, zleT, zleF, zltT, zltF, zeqT, zeqF, nzleT, nzleF, nzltT, nzltF, nzeqT, nzeqF, znleT, znleF, znltT, znltF, zneqT, zneqF, z_add, z_sub, z_mul, z_neg, z_an, z_na, z_sn, z_ns, z_mn, z_nm, g40, elg, h25, h26, f_X0_choose_84]
            · simp (disch := omega) only [k_let, Option.bind_some, ↓reduceIte, eq_self, true_or, or_true, n01_0, n01_1, kb_or, kb_0T, kb_0F, vn_0, vn_1, vn_k, nl_0, nl_1, nl_2, nl_3, nl_4, nl_5, nl_6, nl_7, nl_8, nl_9, nl_10, nl_11, nl_12, nl_13, nl_14, nl_15, nl_16, nl_20, nl_21, nl_22, nl_23, nl_24, nl_25, nl_26, nl_27, nl_28, nl_29, nl_30, nl_31, nl_32, nl_40, nl_41, nl_42, nl_43, nl_45, nl_47, nl_48, nl_50, nl_57, nl_59, nl_60, nl_61, nl_62, nl_63, nl_64, nl_91, nl_93, nl_94, nl_97, nl_98, nl_100, nl_110, nl_122, nl_130, nl_144, nl_160, nl_240, nl_241, nl_255, nl_256, nl_400, nl_800, nl_900, nl_999, nl_1000, nl_1001, nl_1024, nl_1103, nl_1928, nl_4321, nl_5560, nl_12345, nl_1000000, nl_1000003, nl_252645135, nl_858993459, nl_1431655765, nl_1000000000, nI_add, pk_mul, n_sub, n_neg, n_cl, leT, leF, ltT, ltF, eqT, eqF, kbT, s_II, s_In, s_IJ, s_IA, s_IL, s_IR, s_IC, s_JI, s_JJ, s_Jn, s_JA, s_JL, s_JR, s_JC, s_AI, s_AJ, s_AA, s_An, s_AL, s_AR, s_AC, s_LI, s_LJ, s_LA, s_LL, s_Ln, s_LR, s_LC, zleT, zleF, zltT, zltF, zeqT, zeqF, nzleT, nzleF, nzltT, nzltF, nzeqT, nzeqF, znleT, znleF, znltT, znltF, zneqT, zneqF, z_add, z_sub, z_mul, z_neg, z_an, z_na, z_sn, z_ns, z_mn, z_nm, g40, elg, h25, h26, f_X0_choose_84]
          rw [e]
          refine ih g (x + 1) U L f (by omega) (by omega) hF h25 h26 ⟨hB.1, fun s hs hw => ?_⟩
          by_cases q : wtF r s (nD r) = x
          · obtain ⟨s1, b1, b2⟩ := (hlow x (by rw [hAA]; exact hxA)).2 s hs q
            rw [e0] at b1
            cases b1
            rw [q, hAA]
            omega
          · exact hB.2 s hs (by omega)
  obtain ⟨W, L, f, w1, w2, w3, w4, w5⟩ := key (A + 1) FU 0 (sI (sI S 25 (nI A)) 26 (nI 0)) A 0 (by omega) (FU_ge (by omega)) (((Fr.refl S).sI rfl _).sI rfl _) rfl rfl ⟨⟨Nat.zero_and _, by rw [wt_0, hAA]; unfold lgF; omega⟩, fun s _ hw => absurd hw (Nat.not_lt_zero _)⟩
  refine ⟨W, L, f, ?_, w2, w3, w4, ⟨w5.1, fun s hs => w5.2 s hs (by have := wt_le hs; omega)⟩, ?_, sub_lt (m := 16) w5.1.1 hM⟩
  · unfold f_X0_choose
    simp (disch := omega) only [k_let, Option.bind_some, ↓reduceIte, eq_self, true_or, or_true, n01_0, n01_1, kb_or, kb_0T, kb_0F, vn_0, vn_1, vn_k, nl_0, nl_1, nl_2, nl_3, nl_4, nl_5, nl_6, nl_7, nl_8, nl_9, nl_10, nl_11, nl_12, nl_13, nl_14, nl_15, nl_16, nl_20, nl_21, nl_22, nl_23, nl_24, nl_25, nl_26, nl_27, nl_28, nl_29, nl_30, nl_31, nl_32, nl_40, nl_41, nl_42, nl_43, nl_45, nl_47, nl_48, nl_50, nl_57, nl_59, nl_60, nl_61, nl_62, nl_63, nl_64, nl_91, nl_93, nl_94, nl_97, nl_98, nl_100, nl_110, nl_122, nl_130, nl_144, nl_160, nl_240, nl_241, nl_255, nl_256, nl_400, nl_800, nl_900, nl_999, nl_1000, nl_1001, nl_1024, nl_1103, nl_1928, nl_4321, nl_5560, nl_12345, nl_1000000, nl_1000003, nl_252645135, nl_858993459, nl_1431655765, nl_1000000000]
    exact w1
  · have := w5.1.2
    have := wt_le w5.1.1
    rw [hAA] at *
    unfold lgF at *
    omega
theorem e_bfind {r : Nat → Int32} {V : Nat → Vd} {S T : St} (hA : Ask r V S) (fT : Fs S T) {k : Nat} (hk : k < 8) : ∃ W L f, f_X0_find (nI k) T = some W ∧ Fs S W ∧ gI W 25 = nI L ∧ gI W 26 = nI f ∧ BestB r V k L f := by
  obtain ⟨⟨A, a1, a2, a3, a4⟩, -⟩ := hA T fT
  have w := a4.1.1
  have h16 := w.n16
  have h1 := a4.1.I1
  have key : ∀ (m g d : Nat) (U : St) (low : Nat → Option Nat), d + m = nD r → m < g → Fr [] [] [40] [] A U → LowO r V k d low → Tb U (hoA r V k d) low → ∃ W L f, f_X0_find_18 g (nI k) (nI (hoA r V k d)) (nI d) U = some W ∧ Fr [25, 26] [] [40] [] A W ∧ gI W 25 = nI L ∧ gI W 26 = nI f ∧ BestB r V k L f := by
    intro m
    induction m with
    | zero =>
      intro g d U low hd hg hF hlow hT
      obtain ⟨g, rfl⟩ : ∃ j, g = j + 1 := ⟨g - 1, by omega⟩
      have : d = nD r := by omega
      subst this
      have hU := a4.fr hF rfl rfl rfl rfl rfl
      obtain ⟨W, L, f, w1, w2, w3, w4, w5, -⟩ := e_choose w hlow hT
      refine ⟨W, L, f, ?_, (hF.mono rfl rfl rfl rfl).trans (w2.mono rfl rfl rfl rfl), w3, w4, w5⟩
      rw [f_X0_find_18, f_X0_find_99]
      simp (disch := omega) only [k_let, Option.bind_some, ↓reduceIte, eq_self, true_or, or_true, n01_0, n01_1, kb_or, kb_0T, kb_0F, vn_0, vn_1, vn_k, nl_0, nl_1, nl_2, nl_3, nl_4, nl_5, nl_6, nl_7, nl_8, nl_9, nl_10, nl_11, nl_12, nl_13, nl_14, nl_15, nl_16, nl_20, nl_21, nl_22, nl_23, nl_24, nl_25, nl_26, nl_27, nl_28, nl_29, nl_30, nl_31, nl_32, nl_40, nl_41, nl_42, nl_43, nl_45, nl_47, nl_48, nl_50, nl_57, nl_59, nl_60, nl_61, nl_62, nl_63, nl_64, nl_91, nl_93, nl_94, nl_97, nl_98, nl_100, nl_110, nl_122, nl_130, nl_144, nl_160, nl_240, nl_241, nl_255, nl_256, nl_400, nl_800, nl_900, nl_999, nl_1000, nl_1001, nl_1024, nl_1103, nl_1928, nl_4321, nl_5560, nl_12345, nl_1000000, nl_1000003, nl_252645135, nl_858993459, nl_1431655765, nl_1000000000, nI_add, pk_mul, n_sub, n_neg, n_cl, leT, leF, ltT, ltF, eqT, eqF, kbT, s_II, s_In, s_IJ, s_IA, s_IL, s_IR, s_IC, s_JI, s_JJ, s_Jn, s_JA, s_JL, s_JR, s_JC, s_AI, s_AJ, s_AA, s_An, s_AL, s_AR, s_AC, s_LI, s_LJ, s_LA, s_LL, s_Ln, s_LR, s_LC, hU.1.I1, ↓b_of w1]
    | succ m ih =>
      intro g d U low hd hg hF hlow hT
      obtain ⟨g, rfl⟩ : ∃ j, g = j + 1 := ⟨g - 1, by omega⟩
      have hdn : d < nD r := by omega
      have hU := a4.fr hF rfl rfl rfl rfl rfl
      obtain ⟨j1, j2, j3⟩ := hU.2.1 d hdn
      obtain ⟨q1, q2, q3, q4, q5⟩ := hU.1.C hdn
      have c8 := (w.cr hdn).2
      have hAb := hoA_bd (V := V) w k (show d ≤ nD r by omega)
      have tb := tk_bd w hdn
      have hMl := hoM_lt r V k d
      have hl : ∀ e s, e ≤ hoA r V k d → low e = some s → s < 65536 := fun e s he hs => Nat.lt_of_lt_of_le (sub_lt ((hlow e he).1 s hs).1 hMl) (Nat.pow_le_pow_right (n := 2) (j := 16) (by decide) (by omega))
      by_cases c : hoB r V k d = true
      · have c' := c
        unfold hoB at c'
        rw [Bool.and_eq_true, decide_eq_true_eq, Bool.not_eq_true'] at c'
        rw [c'.2] at j2
        have cc := c'.1
        obtain ⟨B, b1, b2, b3⟩ := e_share (S := U) (d := d) (tk := tkF r d) (by omega) tb.1 (by omega) hl hT
        have eA : hoA r V k (d + 1) = hoA r V k d + tkF r d := by
          show hoA r V k d + (if hoB r V k d = true then tkF r d else 0) = _
          rw [if_pos c]
        obtain ⟨W, L, f, w1, w2⟩ := ih g (d + 1) B _ (by omega) (by omega) (hF.trans b2) (hlow.step c tb.1) (by rw [eA]; exact b3)
        refine ⟨W, L, f, ?_, w2⟩
        rw [← w1, eA, f_X0_find_18]
        unfold tkF at b1 ⊢
        simp (disch := omega) only [k_let, Option.bind_some, ↓reduceIte, eq_self, true_or, or_true, n01_0, n01_1, kb_or, kb_0T, kb_0F, vn_0, vn_1, vn_k, nl_0, nl_1, nl_2, nl_3, nl_4, nl_5, nl_6, nl_7, nl_8, nl_9, nl_10, nl_11, nl_12, nl_13, nl_14, nl_15, nl_16, nl_20, nl_21, nl_22, nl_23, nl_24, nl_25, nl_26, nl_27, nl_28, nl_29, nl_30, nl_31, nl_32, nl_40, nl_41, nl_42, nl_43, nl_45, nl_47, nl_48, nl_50, nl_57, nl_59, nl_60, nl_61, nl_62, nl_63, nl_64, nl_91, nl_93, nl_94, nl_97, nl_98, nl_100, nl_110, nl_122, nl_130, nl_144, nl_160, nl_240, nl_241, nl_255, nl_256, nl_400, nl_800, nl_900, nl_999, nl_1000, nl_1001, nl_1024, nl_1103, nl_1928, nl_4321, nl_5560, nl_12345, nl_1000000, nl_1000003, nl_252645135, nl_858993459, nl_1431655765, nl_1000000000, nI_add, pk_mul, n_sub, n_neg, n_cl, leT, leF, ltT, ltF, eqT, eqF, kbT, s_II, s_In, s_IJ, s_IA, s_IL, s_IR, s_IC, s_JI, s_JJ, s_Jn, s_JA, s_JL, s_JR, s_JC, s_AI, s_AJ, s_AA, s_An, s_AL, s_AR, s_AC, s_LI, s_LJ, s_LA, s_LL, s_Ln, s_LR, s_LC, hU.1.I1, q2, j2, kB_f, ↓b_of (e_lenD hU.1 hdn), q4, b1, f_X0_find_93]
      · have eA : hoA r V k (d + 1) = hoA r V k d := by
          show hoA r V k d + (if hoB r V k d = true then tkF r d else 0) = _
          rw [if_neg c]; rfl
        obtain ⟨W, L, f, w1, w2⟩ := ih g (d + 1) U low (by omega) (by omega) hF (hlow.skip c) (by rw [eA]; exact hT)
        refine ⟨W, L, f, ?_, w2⟩
        have c' := c
        unfold hoB at c'
        rw [Bool.and_eq_true, decide_eq_true_eq, Bool.not_eq_true'] at c'
        rw [← w1, eA, f_X0_find_18]
        by_cases ct : dCr r d = k
        · have : (V d).2.1 = true := by
            cases z : (V d).2.1 with
            | true => rfl
            | false => exact absurd ⟨ct, z⟩ c'
          rw [this] at j2
          simp (disch := omega) only [k_let, Option.bind_some, ↓reduceIte, eq_self, true_or, or_true, n01_0, n01_1, kb_or, kb_0T, kb_0F, vn_0, vn_1, vn_k, nl_0, nl_1, nl_2, nl_3, nl_4, nl_5, nl_6, nl_7, nl_8, nl_9, nl_10, nl_11, nl_12, nl_13, nl_14, nl_15, nl_16, nl_20, nl_21, nl_22, nl_23, nl_24, nl_25, nl_26, nl_27, nl_28, nl_29, nl_30, nl_31, nl_32, nl_40, nl_41, nl_42, nl_43, nl_45, nl_47, nl_48, nl_50, nl_57, nl_59, nl_60, nl_61, nl_62, nl_63, nl_64, nl_91, nl_93, nl_94, nl_97, nl_98, nl_100, nl_110, nl_122, nl_130, nl_144, nl_160, nl_240, nl_241, nl_255, nl_256, nl_400, nl_800, nl_900, nl_999, nl_1000, nl_1001, nl_1024, nl_1103, nl_1928, nl_4321, nl_5560, nl_12345, nl_1000000, nl_1000003, nl_252645135, nl_858993459, nl_1431655765, nl_1000000000, nI_add, pk_mul, n_sub, n_neg, n_cl, leT, leF, ltT, ltF, eqT, eqF, kbT, s_II, s_In, s_IJ, s_IA, s_IL, s_IR, s_IC, s_JI, s_JJ, s_Jn, s_JA, s_JL, s_JR, s_JC, s_AI, s_AJ, s_AA, s_An, s_AL, s_AR, s_AC, s_LI, s_LJ, s_LA, s_LL, s_Ln, s_LR, s_LC, hU.1.I1, q2, j2, kB_t, f_X0_find_93]
        · simp (disch := omega) only [k_let, Option.bind_some, ↓reduceIte, eq_self, true_or, or_true, n01_0, n01_1, kb_or, kb_0T, kb_0F, vn_0, vn_1, vn_k, nl_0, nl_1, nl_2, nl_3, nl_4, nl_5, nl_6, nl_7, nl_8, nl_9, nl_10, nl_11, nl_12, nl_13, nl_14, nl_15, nl_16, nl_20, nl_21, nl_22, nl_23, nl_24, nl_25, nl_26, nl_27, nl_28, nl_29, nl_30, nl_31, nl_32, nl_40, nl_41, nl_42, nl_43, nl_45, nl_47, nl_48, nl_50, nl_57, nl_59, nl_60, nl_61, nl_62, nl_63, nl_64, nl_91, nl_93, nl_94, nl_97, nl_98, nl_100, nl_110, nl_122, nl_130, nl_144, nl_160, nl_240, nl_241, nl_255, nl_256, nl_400, nl_800, nl_900, nl_999, nl_1000, nl_1001, nl_1024, nl_1103, nl_1928, nl_4321, nl_5560, nl_12345, nl_1000000, nl_1000003, nl_252645135, nl_858993459, nl_1431655765, nl_1000000000, nI_add, pk_mul, n_sub, n_neg, n_cl, leT, leF, ltT, ltF, eqT, eqF, kbT, s_II, s_In, s_IJ, s_IA, s_IL, s_IR, s_IC, s_JI, s_JJ, s_Jn, s_JA, s_JL, s_JR, s_JC, s_AI, s_AJ, s_AA, s_An, s_AL, s_AR, s_AC, s_LI, s_LJ, s_LA, s_LL, s_Ln, s_LR, s_LC, hU.1.I1, q2, f_X0_find_93]
  obtain ⟨W, L, f, w1, w2, w3, w4, w5⟩ := key (nD r) FU 0 (sA A 40 0 (nI 0)) (fun x => if x = 0 then some 0 else none) (by omega) (FU_ge (by omega)) ((Fr.refl A).sA rfl _ _) (by
    intro x hx
    have hx0 : x = 0 := by have : hoA r V k 0 = 0 := rfl; omega
    subst hx0
    refine ⟨fun s hs => ?_, fun s hs _ => ⟨0, rfl, Nat.zero_le _⟩⟩
    cases hs
    exact ⟨Nat.zero_and _, rfl⟩) (fun e he => by
    have he0 : e = 0 := by have : hoA r V k 0 = 0 := rfl; omega
    subst he0
    rw [s_AA, u_s]; rfl)
  refine ⟨W, L, f, ?_, a3.trans (w2.mono rfl rfl rfl rfl), w3, w4, w5⟩
  rw [show hoA r V k 0 = 0 from rfl] at w1
  unfold f_X0_find
  simp (disch := omega) only [k_let, Option.bind_some, ↓reduceIte, eq_self, true_or, or_true, n01_0, n01_1, kb_or, kb_0T, kb_0F, vn_0, vn_1, vn_k, nl_0, nl_1, nl_2, nl_3, nl_4, nl_5, nl_6, nl_7, nl_8, nl_9, nl_10, nl_11, nl_12, nl_13, nl_14, nl_15, nl_16, nl_20, nl_21, nl_22, nl_23, nl_24, nl_25, nl_26, nl_27, nl_28, nl_29, nl_30, nl_31, nl_32, nl_40, nl_41, nl_42, nl_43, nl_45, nl_47, nl_48, nl_50, nl_57, nl_59, nl_60, nl_61, nl_62, nl_63, nl_64, nl_91, nl_93, nl_94, nl_97, nl_98, nl_100, nl_110, nl_122, nl_130, nl_144, nl_160, nl_240, nl_241, nl_255, nl_256, nl_400, nl_800, nl_900, nl_999, nl_1000, nl_1001, nl_1024, nl_1103, nl_1928, nl_4321, nl_5560, nl_12345, nl_1000000, nl_1000003, nl_252645135, nl_858993459, nl_1431655765, nl_1000000000, nI_add, pk_mul, n_sub, n_neg, n_cl, leT, leF, ltT, ltF, eqT, eqF, kbT, s_II, s_In, s_IJ, s_IA, s_IL, s_IR, s_IC, s_JI, s_JJ, s_Jn, s_JA, s_JL, s_JR, s_JC, s_AI, s_AJ, s_AA, s_An, s_AL, s_AR, s_AC, s_LI, s_LJ, s_LA, s_LL, s_Ln, s_LR, s_LC, ↓b_of a1, a1, w1]
