/-! part 71: askAll -/
theorem e_321 {d : Nat} (hd : d < 16) {told : Int} (ht : okV told) (U : St) : f_X12_askOne_321 (nI d) (lZ told) U = some (sA U 66 d (nI (clampN told))) := by
  obtain ⟨h1, h2⟩ := ht
  unfold f_X12_askOne_321 f_X12_askOne_352 clampN
  by_cases c1 : told < 0
  · simp (disch := omega) only [k_let, Option.bind_some, ↓reduceIte, eq_self, true_or, or_true, n01_0, n01_1, kb_or, kb_0T, kb_0F, vn_0, vn_1, vn_k, nl_0, nl_1, nl_2, nl_3, nl_4, nl_5, nl_6, nl_7, nl_8, nl_9, nl_10, nl_11, nl_12, nl_13, nl_14, nl_15, nl_16, nl_20, nl_21, nl_22, nl_23, nl_24, nl_25, nl_26, nl_27, nl_28, nl_29, nl_30, nl_31, nl_32, nl_40, nl_41, nl_42, nl_43, nl_45, nl_47, nl_48, nl_50, nl_57, nl_59, nl_60, nl_61, nl_62, nl_63, nl_64, nl_91, nl_93, nl_94, nl_97, nl_98, nl_100, nl_110, nl_122, nl_130, nl_144, nl_160, nl_240, nl_241, nl_255, nl_256, nl_400, nl_800, nl_900, nl_999, nl_1000, nl_1001, nl_1024, nl_1103, nl_1928, nl_4321, nl_5560, nl_12345, nl_1000000, nl_1000003, nl_252645135, nl_858993459, nl_1431655765, nl_1000000000, nI_add, pk_mul, n_sub, n_neg, n_cl, leT, leF, ltT, ltF, eqT, eqF, kbT, s_II, s_In, s_IJ, s_IA, s_IL, s_IR, s_IC, s_JI, s_JJ, s_Jn, s_JA, s_JL, s_JR, s_JC, s_AI, s_AJ, s_AA, s_An, s_AL, s_AR, s_AC, s_LI, s_LJ, s_LA, s_LL, s_Ln, s_LR, s_LC, ll_0, ll_1, ll_2, ll_7, ll_8, ll_9, ll_10, ll_20, ll_23, ll_24, ll_26, ll_30, ll_32, ll_48, ll_96, ll_240, ll_256, ll_294, ll_498, ll_999, ll_1000, ll_1103, ll_1476, ll_12345, ll_14836, ll_65536, ll_1000000, ll_1000003, ll_1048576, ll_1000000000, L_leT, L_leF, L_ltT, L_ltF, L_eqT, L_eqF, if_pos]
  · by_cases c2 : 999 < told
    · simp (disch := omega) only [k_let, Option.bind_some, ↓reduceIte, eq_self, true_or, or_true, n01_0, n01_1, kb_or, kb_0T, kb_0F, vn_0, vn_1, vn_k, nl_0, nl_1, nl_2, nl_3, nl_4, nl_5, nl_6, nl_7, nl_8, nl_9, nl_10, nl_11, nl_12, nl_13, nl_14, nl_15, nl_16, nl_20, nl_21, nl_22, nl_23, nl_24, nl_25, nl_26, nl_27, nl_28, nl_29, nl_30, nl_31, nl_32, nl_40, nl_41, nl_42, nl_43, nl_45, nl_47, nl_48, nl_50, nl_57, nl_59, nl_60, nl_61, nl_62, nl_63, nl_64, nl_91, nl_93, nl_94, nl_97, nl_98, nl_100, nl_110, nl_122, nl_130, nl_144, nl_160, nl_240, nl_241, nl_255, nl_256, nl_400, nl_800, nl_900, nl_999, nl_1000, nl_1001, nl_1024, nl_1103, nl_1928, nl_4321, nl_5560, nl_12345, nl_1000000, nl_1000003, nl_252645135, nl_858993459, nl_1431655765, nl_1000000000, nI_add, pk_mul, n_sub, n_neg, n_cl, leT, leF, ltT, ltF, eqT, eqF, kbT, s_II, s_In, s_IJ, s_IA, s_IL, s_IR, s_IC, s_JI, s_JJ, s_Jn, s_JA, s_JL, s_JR, s_JC, s_AI, s_AJ, s_AA, s_An, s_AL, s_AR, s_AC, s_LI, s_LJ, s_LA, s_LL, s_Ln, s_LR, s_LC, ll_0, ll_1, ll_2, ll_7, ll_8, ll_9, ll_10, ll_20, ll_23, ll_24, ll_26, ll_30, ll_32, ll_48, ll_96, ll_240, ll_256, ll_294, ll_498, ll_999, ll_1000, ll_1103, ll_1476, ll_12345, ll_14836, ll_65536, ll_1000000, ll_1000003, ll_1048576, ll_1000000000, L_leT, L_leF, L_ltT, L_ltF, L_eqT, L_eqF, if_neg, if_pos]
    · have e : (lZ told).toInt32 = nI told.toNat := by rw [L_I, n_Z]; congr 1; omega
      simp (disch := omega) only [k_let, Option.bind_some, ↓reduceIte, eq_self, true_or, or_true, n01_0, n01_1, kb_or, kb_0T, kb_0F, vn_0, vn_1, vn_k, nl_0, nl_1, nl_2, nl_3, nl_4, nl_5, nl_6, nl_7, nl_8, nl_9, nl_10, nl_11, nl_12, nl_13, nl_14, nl_15, nl_16, nl_20, nl_21, nl_22, nl_23, nl_24, nl_25, nl_26, nl_27, nl_28, nl_29, nl_30, nl_31, nl_32, nl_40, nl_41, nl_42, nl_43, nl_45, nl_47, nl_48, nl_50, nl_57, nl_59, nl_60, nl_61, nl_62, nl_63, nl_64, nl_91, nl_93, nl_94, nl_97, nl_98, nl_100, nl_110, nl_122, nl_130, nl_144, nl_160, nl_240, nl_241, nl_255, nl_256, nl_400, nl_800, nl_900, nl_999, nl_1000, nl_1001, nl_1024, nl_1103, nl_1928, nl_4321, nl_5560, nl_12345, nl_1000000, nl_1000003, nl_252645135, nl_858993459, nl_1431655765, nl_1000000000, nI_add, pk_mul, n_sub, n_neg, n_cl, leT, leF, ltT, ltF, eqT, eqF, kbT, s_II, s_In, s_IJ, s_IA, s_IL, s_IR, s_IC, s_JI, s_JJ, s_Jn, s_JA, s_JL, s_JR, s_JC, s_AI, s_AJ, s_AA, s_An, s_AL, s_AR, s_AC, s_LI, s_LJ, s_LA, s_LL, s_Ln, s_LR, s_LC, ll_0, ll_1, ll_2, ll_7, ll_8, ll_9, ll_10, ll_20, ll_23, ll_24, ll_26, ll_30, ll_32, ll_48, ll_96, ll_240, ll_256, ll_294, ll_498, ll_999, ll_1000, ll_1103, ll_1476, ll_12345, ll_14836, ll_65536, ll_1000000, ll_1000003, ll_1048576, ll_1000000000, L_leT, L_leF, L_ltT, L_ltF, L_eqT, L_eqF, if_neg, e]
def JdM3 (S U : St) (d : Nat) (x : Vd) : Prop := gA U 66 d = nI x.1 ∧ gA U 67 d = kB x.2.1 ∧ gA U 68 d = kB x.2.2 ∧ ∀ e, e ≠ d → gA U 66 e = gA S 66 e ∧ gA U 67 e = gA S 67 e ∧ gA U 68 e = gA S 68 e
theorem mj_all {L d nc : Nat} {g : Nat → Int32} {E : Nat → Int} {kd : Nat → Nat} {ds dt : Nat → Den} {S : St} {x0 : Vd} (hE : EnvOk E) (hd : d < 16) (hn : nc ≤ 12) (hg : g 1 = nI nc) (hC : ∀ c, c < nc → kd c < 3 ∧ T01 (dt c) ∧ ClM g c (kd c) (ds c) (dt c)) :
    ∀ (m f c : Nat) (U : St) (told : Int), c + m = nc → m < f → AtM L g E U → Fr [48] [1, 2] [67, 68] [65] S U → JdM S U d (vgo kd ds dt E x0 c) → clampN told = (vgo kd ds dt E x0 c).1 → okV told →
    ∃ V, f_X12_askOne_195 f (nI d) (lZ told) (nI c) U = some V ∧ Fr [48] [1, 2] [66, 67, 68] [65] S V ∧ JdM3 S V d (vgo kd ds dt E x0 nc) := by
  intro m
  induction m with
  | zero =>
    intro f c U told hc hf hA hF hx hw htd
    obtain ⟨f, rfl⟩ : ∃ g, f = g + 1 := ⟨f - 1, by omega⟩
    have : c = nc := by omega
    subst this
    obtain ⟨A1, A2, A3, A4⟩ := hA
    have gn : gA U 53 (L + 1) = nI c := by rw [A3, hg]
    obtain ⟨j1, j2, j3⟩ := hx
    refine ⟨sA U 66 d (nI (clampN told)), ?_, (hF.mono rfl rfl rfl rfl : Fr [48] [1, 2] [66, 67, 68] [65] S U).sA rfl _ _, by rw [s_AA, u_s, hw], by rw [s_An (by decide)]; exact j1, by rw [s_An (by decide)]; exact j2, fun e he => ?_⟩
    · rw [f_X12_askOne_195]
      simp (disch := omega) only [k_let, Option.bind_some, ↓reduceIte, eq_self, true_or, or_true, n01_0, n01_1, kb_or, kb_0T, kb_0F, vn_0, vn_1, vn_k, nl_0, nl_1, nl_2, nl_3, nl_4, nl_5, nl_6, nl_7, nl_8, nl_9, nl_10, nl_11, nl_12, nl_13, nl_14, nl_15, nl_16, nl_20, nl_21, nl_22, nl_23, nl_24, nl_25, nl_26, nl_27, nl_28, nl_29, nl_30, nl_31, nl_32, nl_40, nl_41, nl_42, nl_43, nl_45, nl_47, nl_48, nl_50, nl_57, nl_59, nl_60, nl_61, nl_62, nl_63, nl_64, nl_91, nl_93, nl_94, nl_97, nl_98, nl_100, nl_110, nl_122, nl_130, nl_144, nl_160, nl_240, nl_241, nl_255, nl_256, nl_400, nl_800, nl_900, nl_999, nl_1000, nl_1001, nl_1024, nl_1103, nl_1928, nl_4321, nl_5560, nl_12345, nl_1000000, nl_1000003, nl_252645135, nl_858993459, nl_1431655765, nl_1000000000, nI_add, pk_mul, n_sub, n_neg, n_cl, leT, leF, ltT, ltF, eqT, eqF, kbT, s_II, s_In, s_IJ, s_IA, s_IL, s_IR, s_IC, s_JI, s_JJ, s_Jn, s_JA, s_JL, s_JR, s_JC, s_AI, s_AJ, s_AA, s_An, s_AL, s_AR, s_AC, s_LI, s_LJ, s_LA, s_LL, s_Ln, s_LR, s_LC, A1, gn, e_321 hd htd]
    · rw [s_AA, u_n he, s_An (by decide), s_An (by decide)]
      exact j3 e he
  | succ m ih =>
    intro f c U told hc hf hA hF hx hw htd
    obtain ⟨f, rfl⟩ : ∃ g, f = g + 1 := ⟨f - 1, by omega⟩
    have hcn : c < nc := by omega
    obtain ⟨c1, c2, c3⟩ := hC c hcn
    obtain ⟨V, told', v1, v2, v3, v4, v5⟩ := mj_one (S := S) hE (by omega) hd c1 c2 c3 hA hx hw htd nc f hg hcn hn
    rw [v2]
    exact ih f (c + 1) V told' (by omega) (by omega) (hA.fr v1 rfl rfl rfl) (hF.trans v1) v3 v4 v5
theorem l_cnt {r : Nat → Int32} {d : Nat} (hd : d < nD r) {told : Int} : ∀ (m f o : Nat) (S U : St), o + m = nD r → m < f → Ir r U → gL U 64 7 = lZ (sm (fun e => if dOw r e = dOw r d then 1 else 0) o) → Fr [] [] [] [64] S U → (∀ i, i < 7 → gL U 64 i = gL S 64 i) →
    ∃ V, f_X12_askOne_146 f (nI d) (lZ told) (nI o) U = f_X12_askOne_195 FU (nI d) (lZ told) (nI 0) V ∧ gL V 64 7 = lZ (sm (fun e => if dOw r e = dOw r d then 1 else 0) (nD r)) ∧ Fr [] [] [] [64] S V ∧ ∀ i, i < 7 → gL V 64 i = gL S 64 i := by
  intro m
  induction m with
  | zero =>
    intro f o S U ho hf hI h7 hF hp
    obtain ⟨f, rfl⟩ : ∃ g, f = g + 1 := ⟨f - 1, by omega⟩
    have h16 := hI.1.n16
    have : o = nD r := by omega
    subst this
    refine ⟨U, ?_, h7, hF, hp⟩
    rw [f_X12_askOne_146]
    simp (disch := omega) only [k_let, Option.bind_some, ↓reduceIte, eq_self, true_or, or_true, n01_0, n01_1, kb_or, kb_0T, kb_0F, vn_0, vn_1, vn_k, nl_0, nl_1, nl_2, nl_3, nl_4, nl_5, nl_6, nl_7, nl_8, nl_9, nl_10, nl_11, nl_12, nl_13, nl_14, nl_15, nl_16, nl_20, nl_21, nl_22, nl_23, nl_24, nl_25, nl_26, nl_27, nl_28, nl_29, nl_30, nl_31, nl_32, nl_40, nl_41, nl_42, nl_43, nl_45, nl_47, nl_48, nl_50, nl_57, nl_59, nl_60, nl_61, nl_62, nl_63, nl_64, nl_91, nl_93, nl_94, nl_97, nl_98, nl_100, nl_110, nl_122, nl_130, nl_144, nl_160, nl_240, nl_241, nl_255, nl_256, nl_400, nl_800, nl_900, nl_999, nl_1000, nl_1001, nl_1024, nl_1103, nl_1928, nl_4321, nl_5560, nl_12345, nl_1000000, nl_1000003, nl_252645135, nl_858993459, nl_1431655765, nl_1000000000, nI_add, pk_mul, n_sub, n_neg, n_cl, leT, leF, ltT, ltF, eqT, eqF, kbT, s_II, s_In, s_IJ, s_IA, s_IL, s_IR, s_IC, s_JI, s_JJ, s_Jn, s_JA, s_JL, s_JR, s_JC, s_AI, s_AJ, s_AA, s_An, s_AL, s_AR, s_AC, s_LI, s_LJ, s_LA, s_LL, s_Ln, s_LR, s_LC, e_m_n hI]
  | succ m ih =>
    intro f o S U ho hf hI h7 hF hp
    obtain ⟨f, rfl⟩ : ∃ g, f = g + 1 := ⟨f - 1, by omega⟩
    have h16 := hI.1.n16
    have hon : o < nD r := by omega
    have o1 := (hI.1.ow hon).2
    have o2 := (hI.1.ow hd).2
    have e : f_X12_askOne_146 (f + 1) (nI d) (lZ told) (nI o) U = f_X12_askOne_146 f (nI d) (lZ told) (nI (o + 1)) (sL U 64 7 (lZ (sm (fun e => if dOw r e = dOw r d then 1 else 0) (o + 1)))) := by
      rw [f_X12_askOne_146]
      by_cases q : dOw r o = dOw r d
      · have es : sm (fun e => if dOw r e = dOw r d then 1 else 0) (o + 1) = sm (fun e => if dOw r e = dOw r d then 1 else 0) o + 1 := by
          show _ + (if dOw r o = dOw r d then 1 else 0) = _
          rw [if_pos q]
        rw [es]
        simp (disch := omega) only [k_let, Option.bind_some, ↓reduceIte, eq_self, true_or, or_true, n01_0, n01_1, kb_or, kb_0T, kb_0F, vn_0, vn_1, vn_k, nl_0, nl_1, nl_2, nl_3, nl_4, nl_5, nl_6, nl_7, nl_8, nl_9, nl_10, nl_11, nl_12, nl_13, nl_14, nl_15, nl_16, nl_20, nl_21, nl_22, nl_23, nl_24, nl_25, nl_26, nl_27, nl_28, nl_29, nl_30, nl_31, nl_32, nl_40, nl_41, nl_42, nl_43, nl_45, nl_47, nl_48, nl_50, nl_57, nl_59, nl_60, nl_61, nl_62, nl_63, nl_64, nl_91, nl_93, nl_94, nl_97, nl_98, nl_100, nl_110, nl_122, nl_130, nl_144, nl_160, nl_240, nl_241, nl_255, nl_256, nl_400, nl_800, nl_900, nl_999, nl_1000, nl_1001, nl_1024, nl_1103, nl_1928, nl_4321, nl_5560, nl_12345, nl_1000000, nl_1000003, nl_252645135, nl_858993459, nl_1431655765, nl_1000000000, nI_add, pk_mul, n_sub, n_neg, n_cl, leT, leF, ltT, ltF, eqT, eqF, kbT, s_II, s_In, s_IJ, s_IA, s_IL, s_IR, s_IC, s_JI, s_JJ, s_Jn, s_JA, s_JL, s_JR, s_JC, s_AI, s_AJ, s_AA, s_An, s_AL, s_AR, s_AC, s_LI, s_LJ, s_LA, s_LL, s_Ln, s_LR, s_LC, ll_0, ll_1, ll_2, ll_7, ll_8, ll_9, ll_10, ll_20, ll_23, ll_24, ll_26, ll_30, ll_32, ll_48, ll_96, ll_240, ll_256, ll_294, ll_498, ll_999, ll_1000, ll_1103, ll_1476, ll_12345, ll_14836, ll_65536, ll_1000000, ll_1000003, ll_1048576, ll_1000000000, e_m_n hI, e_m_ow hI hon, e_m_ow hI hd, f_X12_askOne_184, h7, L_add]
        rfl
      · have es : sm (fun e => if dOw r e = dOw r d then 1 else 0) (o + 1) = sm (fun e => if dOw r e = dOw r d then 1 else 0) o := by
          show _ + (if dOw r o = dOw r d then 1 else 0) = _
          rw [if_neg q]; rfl
        rw [es]
        simp (disch := omega) only [k_let, Option.bind_some, ↓reduceIte, eq_self, true_or, or_true, n01_0, n01_1, kb_or, kb_0T, kb_0F, vn_0, vn_1, vn_k, nl_0, nl_1, nl_2, nl_3, nl_4, nl_5, nl_6, nl_7, nl_8, nl_9, nl_10, nl_11, nl_12, nl_13, nl_14, nl_15, nl_16, nl_20, nl_21, nl_22, nl_23, nl_24, nl_25, nl_26, nl_27, nl_28, nl_29, nl_30, nl_31, nl_32, nl_40, nl_41, nl_42, nl_43, nl_45, nl_47, nl_48, nl_50, nl_57, nl_59, nl_60, nl_61, nl_62, nl_63, nl_64, nl_91, nl_93, nl_94, nl_97, nl_98, nl_100, nl_110, nl_122, nl_130, nl_144, nl_160, nl_240, nl_241, nl_255, nl_256, nl_400, nl_800, nl_900, nl_999, nl_1000, nl_1001, nl_1024, nl_1103, nl_1928, nl_4321, nl_5560, nl_12345, nl_1000000, nl_1000003, nl_252645135, nl_858993459, nl_1431655765, nl_1000000000, nI_add, pk_mul, n_sub, n_neg, n_cl, leT, leF, ltT, ltF, eqT, eqF, kbT, s_II, s_In, s_IJ, s_IA, s_IL, s_IR, s_IC, s_JI, s_JJ, s_Jn, s_JA, s_JL, s_JR, s_JC, s_AI, s_AJ, s_AA, s_An, s_AL, s_AR, s_AC, s_LI, s_LJ, s_LA, s_LL, s_Ln, s_LR, s_LC, ll_0, ll_1, ll_2, ll_7, ll_8, ll_9, ll_10, ll_20, ll_23, ll_24, ll_26, ll_30, ll_32, ll_48, ll_96, ll_240, ll_256, ll_294, ll_498, ll_999, ll_1000, ll_1103, ll_1476, ll_12345, ll_14836, ll_65536, ll_1000000, ll_1000003, ll_1048576, ll_1000000000, e_m_n hI, e_m_ow hI hon, e_m_ow hI hd, f_X12_askOne_184, h7, L_add, Int.add_zero]
    rw [e]
    refine ih f (o + 1) S _ (by omega) (by omega) ⟨hI.1, hI.2⟩ (by rw [s_LL, u_La, if_pos rfl]) (hF.sL rfl _ _) (fun i hi => ?_)
    rw [s_LL, u_La, if_neg (by omega)]
    exact hp i hi
/-- what the reference holds of the debts below n -/
def JaM (U : St) (V : Nat → Vd) (n : Nat) : Prop := ∀ d, d < n → gA U 66 d = nI (V d).1 ∧ gA U 67 d = kB (V d).2.1 ∧ gA U 68 d = kB (V d).2.2
def VerM (r : Nat → Int32) (V : Nat → Vd) : Prop := ∀ T, Ir r T → ∃ T', f_X12_askAll T = some T' ∧ Fr [47, 48] [1, 2] [66, 67, 68] [64, 65] T T' ∧ JaM T' V (nD r)
theorem m_one {r : Nat → Int32} {V : Nat → Vd} (hV : VdOf r V) {d : Nat} (hd : d < nD r) {S : St} (hI : Ir r S) : ∃ T, f_X12_askOne (nI d) S = some T ∧ Fr [47, 48] [1, 2] [66, 67, 68] [64, 65] S T ∧ JdM3 S T d (V d) := by
  have w := hI.1
  have h16 := w.n16
  have hl := (w.ln hd).2
  rcases hV with ⟨h3, hV⟩ | ⟨f, h3, hf, nc, kd, pc, ds, dt, len, a, n12, p0, hlen, h800, hg, hC, hV⟩
  · refine ⟨sA (sA (sA S 67 d (nI 0)) 68 d (nI 0)) 66 d (nI (dLn r d)), ?_, (((Fr.refl S).sA rfl _ _).sA rfl _ _).sA rfl _ _, ?_⟩
    · have e0 : (nI (dLn r d)).toInt64 = lZ (dLn r d) := L_n (by omega)
      have e1 := e_321 (d := d) (by omega) (told := (dLn r d : Int)) ⟨by omega, by omega⟩ (sA (sA S 67 d (nI 0)) 68 d (nI 0))
      have e2 : clampN (dLn r d : Int) = dLn r d := by unfold clampN; rw [if_neg (by omega), if_neg (by omega)]; rfl
      rw [e2] at e1
      have g3 : gA S 53 3 = iZ (-((1 : Nat) : Int)) := by rw [hI.m]; exact h3
      unfold f_X12_askOne
      simp (maxSteps := 1000000) (disch := omega) only [k_let, Option.bind_some, ↓reduceIte, eq_self, true_or, or_true, n01_0, n01_1, kb_or, kb_0T, kb_0F, vn_0, vn_1, vn_k, nl_0, nl_1, nl_2, nl_3, nl_4, nl_5, nl_6, nl_7, nl_8, nl_9, nl_10, nl_11, nl_12, nl_13, nl_14, nl_15, nl_16, nl_20, nl_21, nl_22, nl_23, nl_24, nl_25, nl_26, nl_27, nl_28, nl_29, nl_30, nl_31, nl_32, nl_40, nl_41, nl_42, nl_43, nl_45, nl_47, nl_48, nl_50, nl_57, nl_59, nl_60, nl_61, nl_62, nl_63, nl_64, nl_91, nl_93, nl_94, nl_97, nl_98, nl_100, nl_110, nl_122, nl_130, nl_144, nl_160, nl_240, nl_241, nl_255, nl_256, nl_400, nl_800, nl_900, nl_999, nl_1000, nl_1001, nl_1024, nl_1103, nl_1928, nl_4321, nl_5560, nl_12345, nl_1000000, nl_1000003, nl_252645135, nl_858993459, nl_1431655765, nl_1000000000, nI_add, pk_mul, n_sub, n_neg, n_cl, leT, leF, ltT, ltF, eqT, eqF, kbT, s_II, s_In, s_IJ, s_IA, s_IL, s_IR, s_IC, s_JI, s_JJ, s_Jn, s_JA, s_JL, s_JR, s_JC, s_AI, s_AJ, s_AA, s_An, s_AL, s_AR, s_AC, s_LI, s_LJ, s_LA, s_LL, s_Ln, s_LR, s_LC, zleT, zleF, zltT, zltF, zeqT, zeqF, nzleT, nzleF, nzltT, nzltF, nzeqT, nzeqF, znleT, znleF, znltT, znltF, zneqT, zneqF, z_add, z_sub, z_mul, z_neg, z_an, z_na, z_sn, z_ns, z_mn, z_nm, e_m_ln hI hd, g3, e0, e1]
    · rw [hV d hd]
      refine ⟨by rw [s_AA, u_s], ?_, ?_, fun e he => ?_⟩
      · simp (disch := omega) only [s_II, s_In, s_IJ, s_IA, s_IL, s_IR, s_IC, s_JI, s_JJ, s_Jn, s_JA, s_JL, s_JR, s_JC, s_AI, s_AJ, s_AA, s_An, s_AL, s_AR, s_AC, s_LI, s_LJ, s_LA, s_LL, s_Ln, s_LR, s_LC, u_s]; rfl
      · simp (disch := omega) only [s_II, s_In, s_IJ, s_IA, s_IL, s_IR, s_IC, s_JI, s_JJ, s_Jn, s_JA, s_JL, s_JR, s_JC, s_AI, s_AJ, s_AA, s_An, s_AL, s_AR, s_AC, s_LI, s_LJ, s_LA, s_LL, s_Ln, s_LR, s_LC, u_s]; rfl
      · simp (disch := omega) only [s_II, s_In, s_IJ, s_IA, s_IL, s_IR, s_IC, s_JI, s_JJ, s_Jn, s_JA, s_JL, s_JR, s_JC, s_AI, s_AJ, s_AA, s_An, s_AL, s_AR, s_AC, s_LI, s_LJ, s_LA, s_LL, s_Ln, s_LR, s_LC, u_n, and_self]
  · have h7 := w.e7
    have h62 := w.2.2.1.2
    have g3 : gA S 53 3 = nI f := by rw [hI.m]; exact h3
    have hsi := (w.si hd).2
    have how := (w.ow hd).2
    have hcr := (w.cr hd).2
    have htu := (w.tu hd).2
    have ht6 := w.t6
    have hha := (w.ha hd).2.1
    have e0 : (nI (dLn r d)).toInt64 = lZ (dLn r d) := L_n (by omega)
    have ea : nI (rN r 7) - nI (dSi r d) = iZ ((rN r 7 : Int) - dSi r d) := by rw [n_Z, n_Z, z_sub]
    have ea2 : (iZ ((rN r 7 : Int) - dSi r d)).toInt64 = lZ ((rN r 7 : Int) - dSi r d) := L_i (by omega) (by omega)
    -- the state with all words but the last
    generalize hB : sL (sL (sL (sL (sL (sL (sL (sI (sA (sA S 67 d (nI 0)) 68 d (nI 0)) 47 (nI (160 + 900 * f))) 64 1 (lZ (dOw r d))) 64 2 (lZ (dCr r d))) 64 3 (lZ (dTu r d))) 64 4 (lZ (dLn r d))) 64 5 (lZ (dHa r d))) 64 6 (lZ ((rN r 7 : Int) - dSi r d))) 64 7 (lZ 0) = B
    have fB : Fr [47, 48] [1, 2] [66, 67, 68] [64, 65] S B := by
      rw [← hB]
      exact (((((((((((Fr.refl S).sA rfl _ _).sA rfl _ _).sI rfl _).sL rfl _ _).sL rfl _ _).sL rfl _ _).sL rfl _ _).sL rfl _ _).sL rfl _ _).sL rfl _ _)
    have iB : Ir r B := hI.fr fB rfl
    have e1 : f_X12_askOne (nI d) S = f_X12_askOne_146 FU (nI d) (lZ (dLn r d)) (nI 0) B := by
      have l1 : (nI (dOw r d)).toInt64 = lZ (dOw r d) := L_n (by omega)
      have l2 : (nI (dCr r d)).toInt64 = lZ (dCr r d) := L_n (by omega)
      have l3 : (nI (dTu r d)).toInt64 = lZ (dTu r d) := L_n (by omega)
      have l5 : (nI (dHa r d)).toInt64 = lZ (dHa r d) := L_n (by omega)
      have m : ∀ {T : St}, gA T 53 = gA S 53 → Ir r T := fun e => ⟨w, e.trans hI.m⟩
      rw [← hB]
      unfold f_X12_askOne
      simp (maxSteps := 4000000) (disch := omega) only [k_let, Option.bind_some, ↓reduceIte, eq_self, true_or, or_true, n01_0, n01_1, kb_or, kb_0T, kb_0F, vn_0, vn_1, vn_k, nl_0, nl_1, nl_2, nl_3, nl_4, nl_5, nl_6, nl_7, nl_8, nl_9, nl_10, nl_11, nl_12, nl_13, nl_14, nl_15, nl_16, nl_20, nl_21, nl_22, nl_23, nl_24, nl_25, nl_26, nl_27, nl_28, nl_29, nl_30, nl_31, nl_32, nl_40, nl_41, nl_42, nl_43, nl_45, nl_47, nl_48, nl_50, nl_57, nl_59, nl_60, nl_61, nl_62, nl_63, nl_64, nl_91, nl_93, nl_94, nl_97, nl_98, nl_100, nl_110, nl_122, nl_130, nl_144, nl_160, nl_240, nl_241, nl_255, nl_256, nl_400, nl_800, nl_900, nl_999, nl_1000, nl_1001, nl_1024, nl_1103, nl_1928, nl_4321, nl_5560, nl_12345, nl_1000000, nl_1000003, nl_252645135, nl_858993459, nl_1431655765, nl_1000000000, nI_add, pk_mul, n_sub, n_neg, n_cl, leT, leF, ltT, ltF, eqT, eqF, kbT, s_II, s_In, s_IJ, s_IA, s_IL, s_IR, s_IC, s_JI, s_JJ, s_Jn, s_JA, s_JL, s_JR, s_JC, s_AI, s_AJ, s_AA, s_An, s_AL, s_AR, s_AC, s_LI, s_LJ, s_LA, s_LL, s_Ln, s_LR, s_LC, nzeqF, ll_0, ll_1, ll_2, ll_7, ll_8, ll_9, ll_10, ll_20, ll_23, ll_24, ll_26, ll_30, ll_32, ll_48, ll_96, ll_240, ll_256, ll_294, ll_498, ll_999, ll_1000, ll_1103, ll_1476, ll_12345, ll_14836, ll_65536, ll_1000000, ll_1000003, ll_1048576, ll_1000000000, e_m_ln hI hd, g3, e_ofDebt, hI.m, (w.ow hd).1, (w.cr hd).1, (w.tu hd).1, (w.ha hd).1, (w.si hd).1, w.r7, e_m_ln (m (T := sL (sL (sL (sI (sA (sA S 67 d (nI 0)) 68 d (nI 0)) 47 (nI (160 + 900 * f))) 64 1 (lZ (dOw r d))) 64 2 (lZ (dCr r d))) 64 3 (lZ (dTu r d))) rfl) hd, ea, ea2, e0, l1, l2, l3, l5, show 14 + 5 * d + 0 = 14 + 5 * d from rfl]
    obtain ⟨C, c1, c2, c3, c4⟩ := l_cnt hd (told := (dLn r d : Int)) (nD r) FU 0 B B (by omega) (FU_ge (by omega)) iB (by rw [← hB]; exact s_LL _ _ _ _ ▸ (by rw [u_La, if_pos rfl]; rfl)) (Fr.refl B) (fun _ _ => rfl)
    have hA : AtM (160 + 900 * f) (fun i => r (160 + 900 * f + i)) (envD r d) C := by
      refine ⟨?_, by omega, fun i => ?_, fun wd hwd => ?_⟩
      · rw [c3.I rfl, ← hB]; rfl
      · rw [c3.A rfl, iB.m]
      · have hh : wd = 6 ∨ wd < 6 := by omega
        rcases hh with rfl | hh
        · exact c2
        · rw [c4 _ (by omega), ← hB]
          have : wd = 0 ∨ wd = 1 ∨ wd = 2 ∨ wd = 3 ∨ wd = 4 ∨ wd = 5 := by omega
          rcases this with rfl | rfl | rfl | rfl | rfl | rfl <;> simp (disch := omega) only [s_II, s_In, s_IJ, s_IA, s_IL, s_IR, s_IC, s_JI, s_JJ, s_Jn, s_JA, s_JL, s_JR, s_JC, s_AI, s_AJ, s_AA, s_An, s_AL, s_AR, s_AC, s_LI, s_LJ, s_LA, s_LL, s_Ln, s_LR, s_LC, u_La, if_neg, if_pos] <;> rfl
    have e2 : clampN (dLn r d : Int) = dLn r d := by unfold clampN; rw [if_neg (by omega), if_neg (by omega)]; rfl
    have jB : JdM C C d (dLn r d, false, false) := by
      refine ⟨?_, ?_, fun e _ => ⟨rfl, rfl, rfl⟩⟩
      · rw [c3.A rfl, ← hB]
        simp (disch := omega) only [s_II, s_In, s_IJ, s_IA, s_IL, s_IR, s_IC, s_JI, s_JJ, s_Jn, s_JA, s_JL, s_JR, s_JC, s_AI, s_AJ, s_AA, s_An, s_AL, s_AR, s_AC, s_LI, s_LJ, s_LA, s_LL, s_Ln, s_LR, s_LC, u_s]; rfl
      · rw [c3.A rfl, ← hB]
        simp (disch := omega) only [s_II, s_In, s_IJ, s_IA, s_IL, s_IR, s_IC, s_JI, s_JJ, s_Jn, s_JA, s_JL, s_JR, s_JC, s_AI, s_AJ, s_AA, s_An, s_AL, s_AR, s_AC, s_LI, s_LJ, s_LA, s_LL, s_Ln, s_LR, s_LC, u_s]; rfl
    obtain ⟨D, d1, d2, d3⟩ := mj_all (S := C) (x0 := (dLn r d, false, false)) (envOk w hd) (show d < 16 by omega) n12 hg (fun c hc => ⟨(hC c hc).1, (hC c hc).2.1, (hC c hc).2.2.2⟩) nc FU 0 C (dLn r d) (by omega) (FU_ge (by omega)) hA (Fr.refl C) jB e2 ⟨by omega, by omega⟩
    refine ⟨D, by rw [e1, c1, d1], (fB.trans (c3.mono rfl rfl rfl rfl)).trans (d2.mono rfl rfl rfl rfl), ?_⟩
    rw [hV d hd]
    obtain ⟨j1, j2, j3, j4⟩ := d3
    refine ⟨j1, j2, j3, fun e he => ?_⟩
    obtain ⟨k1, k2, k3⟩ := j4 e he
    rw [k1, k2, k3, c3.A (k := 66) rfl, c3.A (k := 67) rfl, c3.A (k := 68) rfl, ← hB]
    simp (disch := omega) only [s_II, s_In, s_IJ, s_IA, s_IL, s_IR, s_IC, s_JI, s_JJ, s_Jn, s_JA, s_JL, s_JR, s_JC, s_AI, s_AJ, s_AA, s_An, s_AL, s_AR, s_AC, s_LI, s_LJ, s_LA, s_LL, s_Ln, s_LR, s_LC, u_n, and_self]
theorem verM {r : Nat → Int32} {V : Nat → Vd} (hV : VdOf r V) : VerM r V := by
  intro T hT
  have h16 := hT.1.n16
  have key : ∀ (m f d : Nat) (U : St), d + m = nD r → m < f → Fr [47, 48] [1, 2] [66, 67, 68] [64, 65] T U → JaM U V d → ∃ W, f_X12_askAll_2 f (nI d) U = some W ∧ Fr [47, 48] [1, 2] [66, 67, 68] [64, 65] T W ∧ JaM W V (nD r) := by
    intro m
    induction m with
    | zero =>
      intro f d U hd hf hF hx
      obtain ⟨f, rfl⟩ : ∃ g, f = g + 1 := ⟨f - 1, by omega⟩
      have : d = nD r := by omega
      subst this
      refine ⟨U, ?_, hF, hx⟩
      rw [f_X12_askAll_2]
      simp (disch := omega) only [k_let, Option.bind_some, ↓reduceIte, eq_self, true_or, or_true, n01_0, n01_1, kb_or, kb_0T, kb_0F, vn_0, vn_1, vn_k, nl_0, nl_1, nl_2, nl_3, nl_4, nl_5, nl_6, nl_7, nl_8, nl_9, nl_10, nl_11, nl_12, nl_13, nl_14, nl_15, nl_16, nl_20, nl_21, nl_22, nl_23, nl_24, nl_25, nl_26, nl_27, nl_28, nl_29, nl_30, nl_31, nl_32, nl_40, nl_41, nl_42, nl_43, nl_45, nl_47, nl_48, nl_50, nl_57, nl_59, nl_60, nl_61, nl_62, nl_63, nl_64, nl_91, nl_93, nl_94, nl_97, nl_98, nl_100, nl_110, nl_122, nl_130, nl_144, nl_160, nl_240, nl_241, nl_255, nl_256, nl_400, nl_800, nl_900, nl_999, nl_1000, nl_1001, nl_1024, nl_1103, nl_1928, nl_4321, nl_5560, nl_12345, nl_1000000, nl_1000003, nl_252645135, nl_858993459, nl_1431655765, nl_1000000000, nI_add, pk_mul, n_sub, n_neg, n_cl, leT, leF, ltT, ltF, eqT, eqF, kbT, s_II, s_In, s_IJ, s_IA, s_IL, s_IR, s_IC, s_JI, s_JJ, s_Jn, s_JA, s_JL, s_JR, s_JC, s_AI, s_AJ, s_AA, s_An, s_AL, s_AR, s_AC, s_LI, s_LJ, s_LA, s_LL, s_Ln, s_LR, s_LC, e_m_n (hT.fr hF rfl)]
    | succ m ih =>
      intro f d U hd hf hF hx
      obtain ⟨f, rfl⟩ : ∃ g, f = g + 1 := ⟨f - 1, by omega⟩
      have hdn : d < nD r := by omega
      obtain ⟨W, w1, w2, w3⟩ := m_one hV hdn (hT.fr hF rfl)
      have e : f_X12_askAll_2 (f + 1) (nI d) U = f_X12_askAll_2 f (nI (d + 1)) W := by
        rw [f_X12_askAll_2]
        simp (disch := omega) only [k_let, Option.bind_some, ↓reduceIte, eq_self, true_or, or_true, n01_0, n01_1, kb_or, kb_0T, kb_0F, vn_0, vn_1, vn_k, nl_0, nl_1, nl_2, nl_3, nl_4, nl_5, nl_6, nl_7, nl_8, nl_9, nl_10, nl_11, nl_12, nl_13, nl_14, nl_15, nl_16, nl_20, nl_21, nl_22, nl_23, nl_24, nl_25, nl_26, nl_27, nl_28, nl_29, nl_30, nl_31, nl_32, nl_40, nl_41, nl_42, nl_43, nl_45, nl_47, nl_48, nl_50, nl_57, nl_59, nl_60, nl_61, nl_62, nl_63, nl_64, nl_91, nl_93, nl_94, nl_97, nl_98, nl_100, nl_110, nl_122, nl_130, nl_144, nl_160, nl_240, nl_241, nl_255, nl_256, nl_400, nl_800, nl_900, nl_999, nl_1000, nl_1001, nl_1024, nl_1103, nl_1928, nl_4321, nl_5560, nl_12345, nl_1000000, nl_1000003, nl_252645135, nl_858993459, nl_1431655765, nl_1000000000, nI_add, pk_mul, n_sub, n_neg, n_cl, leT, leF, ltT, ltF, eqT, eqF, kbT, s_II, s_In, s_IJ, s_IA, s_IL, s_IR, s_IC, s_JI, s_JJ, s_Jn, s_JA, s_JL, s_JR, s_JC, s_AI, s_AJ, s_AA, s_An, s_AL, s_AR, s_AC, s_LI, s_LJ, s_LA, s_LL, s_Ln, s_LR, s_LC, e_m_n (hT.fr hF rfl), w1]
      rw [e]
      refine ih f (d + 1) W (by omega) (by omega) (hF.trans w2) (fun k hk => ?_)
      obtain ⟨j1, j2, j3, j4⟩ := w3
      by_cases q : k = d
      · rw [q]; exact ⟨j1, j2, j3⟩
      · obtain ⟨i1, i2, i3⟩ := j4 k q
        rw [i1, i2, i3]
        exact hx k (by omega)
  obtain ⟨W, w1, w2, w3⟩ := key (nD r) FU 0 T (by omega) (FU_ge (by omega)) (Fr.refl T) (fun d hd => absurd hd (Nat.not_lt_zero _))
  refine ⟨W, ?_, w2, w3⟩
  unfold f_X12_askAll
  exact w1
/-- both sides come to the same verdicts -/
theorem ver {r : Nat → Int32} {S : St} (h : Ic r S) : ∃ V, (∀ d, d < nD r → (V d).1 ≤ 999) ∧ VerC r S V ∧ VerM r V := by
  obtain ⟨V, v1, v2⟩ := verC h
  refine ⟨V, fun d hd => ?_, v2, verM v1⟩
  have hl := (h.1.ln hd).2
  rcases v1 with ⟨-, e⟩ | ⟨f, -, -, nc, kd, pc, ds, dt, len, a, -, -, -, -, -, hC, e⟩
  · rw [e d hd]; show dLn r d ≤ 999; omega
  · rw [e d hd]
    have : ∀ c, (vgo kd ds dt (envD r d) (dLn r d, false, false) c).1 ≤ 999 := by
      intro c
      induction c with
      | zero => show dLn r d ≤ 999; omega
      | succ c ih =>
        show (vst (kd c) _ _ _).1 ≤ 999
        unfold vst
        by_cases q : dt c (envD r d) = some 1
        · rw [if_pos q]
          by_cases z : kd c = 0
          · rw [if_pos z]
            cases ds c (envD r d) with
            | none => exact ih
            | some v => exact clampN_le v
          · rw [if_neg z]
            by_cases y : kd c = 1
            · rw [if_pos y]; exact ih
            · rw [if_neg y]; exact ih
        · rw [if_neg q]; exact ih
    exact this nc
