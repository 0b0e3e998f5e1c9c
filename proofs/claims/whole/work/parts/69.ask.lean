/-! part 69: the reference asks a law -/
theorem dR_d {x y : Int32} {op : Nat} {arg : Int} (h : dR x y = (op, arg)) : op = 99 ∨ (op = 0 ∧ x = nI 0 ∧ arg = y.toInt) ∨ (op = 1 ∧ ∃ w : Nat, w < 7 ∧ arg = w ∧ x = nI (w + 1)) ∨ (op = 11 ∧ x = nI 28 ∧ arg = y.toInt) ∨ (op = 10 ∧ x = nI 29 ∧ arg = y.toInt) ∨ (2 ≤ op ∧ op ≤ 9 ∧ x = nI (op + 18)) := by
  unfold dR at h
  by_cases c0 : x = nI 0
  · rw [if_pos c0] at h
    injection h with a b
    exact Or.inr (Or.inl ⟨a.symm, c0, b.symm⟩)
  rw [if_neg c0] at h
  by_cases c1 : 1 ≤ x.toInt ∧ x.toInt ≤ 7
  · rw [if_pos c1] at h
    injection h with a b
    obtain ⟨e, -, e2⟩ := n_of (x := x) (by omega)
    refine Or.inr (Or.inr (Or.inl ⟨a.symm, x.toNatClampNeg - 1, by omega, by omega, ?_⟩))
    rw [show x.toNatClampNeg - 1 + 1 = x.toNatClampNeg by omega]
    exact e
  rw [if_neg c1] at h
  by_cases c2 : x = nI 28
  · rw [if_pos c2] at h
    injection h with a b
    exact Or.inr (Or.inr (Or.inr (Or.inl ⟨a.symm, c2, b.symm⟩)))
  rw [if_neg c2] at h
  by_cases c3 : x = nI 29
  · rw [if_pos c3] at h
    injection h with a b
    exact Or.inr (Or.inr (Or.inr (Or.inr (Or.inl ⟨a.symm, c3, b.symm⟩))))
  rw [if_neg c3] at h
  by_cases c4 : 20 ≤ x.toInt ∧ x.toInt ≤ 27
  · rw [if_pos c4] at h
    injection h with a b
    obtain ⟨e, -, e2⟩ := n_of (x := x) (by omega)
    refine Or.inr (Or.inr (Or.inr (Or.inr (Or.inr ⟨by omega, by omega, ?_⟩))))
    rw [show op + 18 = x.toNatClampNeg by omega]
    exact e
  · rw [if_neg c4] at h
    injection h with a b
    exact Or.inl a.symm
def StkM (U : St) (st : List Int) : Prop := (∀ i, i < st.length → gL U 65 i = lZ (stg st i)) ∧ ∀ v, v ∈ st → okV v
theorem StkM.push {U : St} {st : List Int} (h : StkM U st) {v : Int} (hv : okV v) : StkM (sL U 65 st.length (lZ v)) (v :: st) := by
  refine ⟨fun i hi => ?_, fun x hx => ?_⟩
  · rw [s_LL, u_La]
    by_cases q : i = st.length
    · rw [if_pos q, q, stg_eq]
    · have : i < st.length := by have : i < st.length + 1 := hi; omega
      rw [if_neg q, stg_lt this]
      exact h.1 i this
  · rcases List.mem_cons.mp hx with rfl | hx
    · exact hv
    · exact h.2 x hx
theorem StkM.pop {U : St} {v : Int} {st : List Int} (h : StkM U (v :: st)) : StkM U st := by
  refine ⟨fun i hi => ?_, fun x hx => h.2 x (List.mem_cons_of_mem _ hx)⟩
  rw [h.1 i (by show i < st.length + 1; omega), stg_lt hi]
theorem StkM.top {U : St} {v : Int} {st : List Int} (h : StkM U (v :: st)) : gL U 65 st.length = lZ v := by
  rw [h.1 _ (Nat.lt_succ_self _), stg_eq]
theorem StkM.fr {U V : St} {st : List Int} (h : StkM U st) {ci cj ca cl : List Nat} (f : Fr ci cj ca cl U V) (h2 : cl.contains 65 = false) : StkM V st := by
  unfold StkM
  rw [f.L h2]
  exact h
/-- the reference is at law base L, its words are E's -/
def AtM (L : Nat) (g : Nat → Int32) (E : Nat → Int) (U : St) : Prop := gI U 47 = nI L ∧ L ≤ 4660 ∧ (∀ i, gA U 53 (L + i) = g i) ∧ ∀ w, w < 7 → gL U 64 (w + 1) = lZ (E w)
theorem AtM.fr {L : Nat} {g : Nat → Int32} {E : Nat → Int} {U V : St} (h : AtM L g E U) {ci cj ca cl : List Nat} (f : Fr ci cj ca cl U V) (h1 : ci.contains 47 = false) (h2 : ca.contains 53 = false) (h3 : cl.contains 64 = false) : AtM L g E V := by
  unfold AtM
  rw [f.I h1, f.A h2, f.L h3]
  exact h
theorem e_reckon {op : Nat} (h2 : 2 ≤ op) (h8 : op ≤ 8) {a b : Int} (ha : okV a) (hb : okV b) {S : St} (h0 : gI S 48 = nI 0) : ∃ V, Fr [48] [] [] [] S V ∧ ((op = 5 ∧ b = 0 ∧ gI V 48 = nI 1 ∧ f_X12_reckon (nI (op + 18)) (lZ a) (lZ b) S = some (lZ 0, V)) ∨ (¬ (op = 5 ∧ b = 0) ∧ gI V 48 = nI 0 ∧ f_X12_reckon (nI (op + 18)) (lZ a) (lZ b) S = some (lZ (opr op a b), V))) := by
  obtain ⟨a1, a2⟩ := ha
  obtain ⟨b1, b2⟩ := hb
  unfold f_X12_reckon f_X12_reckon_68 f_X12_reckon_86 f_X12_reckon_99 f_X12_reckon_112 f_X12_reckon_125 opr
  have : op = 2 ∨ op = 3 ∨ op = 4 ∨ op = 5 ∨ op = 6 ∨ op = 7 ∨ op = 8 := by omega
  rcases this with rfl | rfl | rfl | rfl | rfl | rfl | rfl
  · refine ⟨S, Fr.refl S, Or.inr ⟨by omega, h0, ?_⟩⟩
    simp (disch := omega) only [k_let, Option.bind_some, ↓reduceIte, eq_self, true_or, or_true, n01_0, n01_1, kb_or, kb_0T, kb_0F, vn_0, vn_1, vn_k, nl_0, nl_1, nl_2, nl_3, nl_4, nl_5, nl_6, nl_7, nl_8, nl_9, nl_10, nl_11, nl_12, nl_13, nl_14, nl_15, nl_16, nl_20, nl_21, nl_22, nl_23, nl_24, nl_25, nl_26, nl_27, nl_28, nl_29, nl_30, nl_31, nl_32, nl_40, nl_41, nl_42, nl_43, nl_45, nl_47, nl_48, nl_50, nl_57, nl_59, nl_60, nl_61, nl_62, nl_63, nl_64, nl_91, nl_93, nl_94, nl_97, nl_98, nl_100, nl_110, nl_122, nl_130, nl_144, nl_160, nl_240, nl_241, nl_255, nl_256, nl_400, nl_800, nl_900, nl_999, nl_1000, nl_1001, nl_1024, nl_1103, nl_1928, nl_4321, nl_5560, nl_12345, nl_1000000, nl_1000003, nl_252645135, nl_858993459, nl_1431655765, nl_1000000000, nI_add, pk_mul, n_sub, n_neg, n_cl, leT, leF, ltT, ltF, eqT, eqF, kbT, s_II, s_In, s_IJ, s_IA, s_IL, s_IR, s_IC, s_JI, s_JJ, s_Jn, s_JA, s_JL, s_JR, s_JC, s_AI, s_AJ, s_AA, s_An, s_AL, s_AR, s_AC, s_LI, s_LJ, s_LA, s_LL, s_Ln, s_LR, s_LC, ll_0, ll_1, ll_2, ll_7, ll_8, ll_9, ll_10, ll_20, ll_23, ll_24, ll_26, ll_30, ll_32, ll_48, ll_96, ll_240, ll_256, ll_294, ll_498, ll_999, ll_1000, ll_1103, ll_1476, ll_12345, ll_14836, ll_65536, ll_1000000, ll_1000003, ll_1048576, ll_1000000000, L_leT, L_leF, L_ltT, L_ltF, L_eqT, L_eqF, L_add] <;> rfl
  · refine ⟨S, Fr.refl S, Or.inr ⟨by omega, h0, ?_⟩⟩
    simp (disch := omega) only [k_let, Option.bind_some, ↓reduceIte, eq_self, true_or, or_true, n01_0, n01_1, kb_or, kb_0T, kb_0F, vn_0, vn_1, vn_k, nl_0, nl_1, nl_2, nl_3, nl_4, nl_5, nl_6, nl_7, nl_8, nl_9, nl_10, nl_11, nl_12, nl_13, nl_14, nl_15, nl_16, nl_20, nl_21, nl_22, nl_23, nl_24, nl_25, nl_26, nl_27, nl_28, nl_29, nl_30, nl_31, nl_32, nl_40, nl_41, nl_42, nl_43, nl_45, nl_47, nl_48, nl_50, nl_57, nl_59, nl_60, nl_61, nl_62, nl_63, nl_64, nl_91, nl_93, nl_94, nl_97, nl_98, nl_100, nl_110, nl_122, nl_130, nl_144, nl_160, nl_240, nl_241, nl_255, nl_256, nl_400, nl_800, nl_900, nl_999, nl_1000, nl_1001, nl_1024, nl_1103, nl_1928, nl_4321, nl_5560, nl_12345, nl_1000000, nl_1000003, nl_252645135, nl_858993459, nl_1431655765, nl_1000000000, nI_add, pk_mul, n_sub, n_neg, n_cl, leT, leF, ltT, ltF, eqT, eqF, kbT, s_II, s_In, s_IJ, s_IA, s_IL, s_IR, s_IC, s_JI, s_JJ, s_Jn, s_JA, s_JL, s_JR, s_JC, s_AI, s_AJ, s_AA, s_An, s_AL, s_AR, s_AC, s_LI, s_LJ, s_LA, s_LL, s_Ln, s_LR, s_LC, ll_0, ll_1, ll_2, ll_7, ll_8, ll_9, ll_10, ll_20, ll_23, ll_24, ll_26, ll_30, ll_32, ll_48, ll_96, ll_240, ll_256, ll_294, ll_498, ll_999, ll_1000, ll_1103, ll_1476, ll_12345, ll_14836, ll_65536, ll_1000000, ll_1000003, ll_1048576, ll_1000000000, L_leT, L_leF, L_ltT, L_ltF, L_eqT, L_eqF, L_sub] <;> rfl
  · refine ⟨S, Fr.refl S, Or.inr ⟨by omega, h0, ?_⟩⟩
    simp (disch := omega) only [k_let, Option.bind_some, ↓reduceIte, eq_self, true_or, or_true, n01_0, n01_1, kb_or, kb_0T, kb_0F, vn_0, vn_1, vn_k, nl_0, nl_1, nl_2, nl_3, nl_4, nl_5, nl_6, nl_7, nl_8, nl_9, nl_10, nl_11, nl_12, nl_13, nl_14, nl_15, nl_16, nl_20, nl_21, nl_22, nl_23, nl_24, nl_25, nl_26, nl_27, nl_28, nl_29, nl_30, nl_31, nl_32, nl_40, nl_41, nl_42, nl_43, nl_45, nl_47, nl_48, nl_50, nl_57, nl_59, nl_60, nl_61, nl_62, nl_63, nl_64, nl_91, nl_93, nl_94, nl_97, nl_98, nl_100, nl_110, nl_122, nl_130, nl_144, nl_160, nl_240, nl_241, nl_255, nl_256, nl_400, nl_800, nl_900, nl_999, nl_1000, nl_1001, nl_1024, nl_1103, nl_1928, nl_4321, nl_5560, nl_12345, nl_1000000, nl_1000003, nl_252645135, nl_858993459, nl_1431655765, nl_1000000000, nI_add, pk_mul, n_sub, n_neg, n_cl, leT, leF, ltT, ltF, eqT, eqF, kbT, s_II, s_In, s_IJ, s_IA, s_IL, s_IR, s_IC, s_JI, s_JJ, s_Jn, s_JA, s_JL, s_JR, s_JC, s_AI, s_AJ, s_AA, s_An, s_AL, s_AR, s_AC, s_LI, s_LJ, s_LA, s_LL, s_Ln, s_LR, s_LC, ll_0, ll_1, ll_2, ll_7, ll_8, ll_9, ll_10, ll_20, ll_23, ll_24, ll_26, ll_30, ll_32, ll_48, ll_96, ll_240, ll_256, ll_294, ll_498, ll_999, ll_1000, ll_1103, ll_1476, ll_12345, ll_14836, ll_65536, ll_1000000, ll_1000003, ll_1048576, ll_1000000000, L_leT, L_leF, L_ltT, L_ltF, L_eqT, L_eqF, L_mul] <;> rfl
  · by_cases c : b = 0
    · subst c
      refine ⟨sI S 48 (nI 1), (Fr.refl S).sI rfl _, Or.inl ⟨rfl, rfl, rfl, ?_⟩⟩
      simp (disch := omega) only [k_let, Option.bind_some, ↓reduceIte, eq_self, true_or, or_true, n01_0, n01_1, kb_or, kb_0T, kb_0F, vn_0, vn_1, vn_k, nl_0, nl_1, nl_2, nl_3, nl_4, nl_5, nl_6, nl_7, nl_8, nl_9, nl_10, nl_11, nl_12, nl_13, nl_14, nl_15, nl_16, nl_20, nl_21, nl_22, nl_23, nl_24, nl_25, nl_26, nl_27, nl_28, nl_29, nl_30, nl_31, nl_32, nl_40, nl_41, nl_42, nl_43, nl_45, nl_47, nl_48, nl_50, nl_57, nl_59, nl_60, nl_61, nl_62, nl_63, nl_64, nl_91, nl_93, nl_94, nl_97, nl_98, nl_100, nl_110, nl_122, nl_130, nl_144, nl_160, nl_240, nl_241, nl_255, nl_256, nl_400, nl_800, nl_900, nl_999, nl_1000, nl_1001, nl_1024, nl_1103, nl_1928, nl_4321, nl_5560, nl_12345, nl_1000000, nl_1000003, nl_252645135, nl_858993459, nl_1431655765, nl_1000000000, nI_add, pk_mul, n_sub, n_neg, n_cl, leT, leF, ltT, ltF, eqT, eqF, kbT, s_II, s_In, s_IJ, s_IA, s_IL, s_IR, s_IC, s_JI, s_JJ, s_Jn, s_JA, s_JL, s_JR, s_JC, s_AI, s_AJ, s_AA, s_An, s_AL, s_AR, s_AC, s_LI, s_LJ, s_LA, s_LL, s_Ln, s_LR, s_LC, ll_0, ll_1, ll_2, ll_7, ll_8, ll_9, ll_10, ll_20, ll_23, ll_24, ll_26, ll_30, ll_32, ll_48, ll_96, ll_240, ll_256, ll_294, ll_498, ll_999, ll_1000, ll_1103, ll_1476, ll_12345, ll_14836, ll_65536, ll_1000000, ll_1000003, ll_1048576, ll_1000000000, L_leT, L_leF, L_ltT, L_ltF, L_eqT, L_eqF]
    · refine ⟨sI S 48 (nI 0), (Fr.refl S).sI rfl _, Or.inr ⟨fun q => c q.2, rfl, ?_⟩⟩
      simp (disch := omega) only [k_let, Option.bind_some, ↓reduceIte, eq_self, true_or, or_true, n01_0, n01_1, kb_or, kb_0T, kb_0F, vn_0, vn_1, vn_k, nl_0, nl_1, nl_2, nl_3, nl_4, nl_5, nl_6, nl_7, nl_8, nl_9, nl_10, nl_11, nl_12, nl_13, nl_14, nl_15, nl_16, nl_20, nl_21, nl_22, nl_23, nl_24, nl_25, nl_26, nl_27, nl_28, nl_29, nl_30, nl_31, nl_32, nl_40, nl_41, nl_42, nl_43, nl_45, nl_47, nl_48, nl_50, nl_57, nl_59, nl_60, nl_61, nl_62, nl_63, nl_64, nl_91, nl_93, nl_94, nl_97, nl_98, nl_100, nl_110, nl_122, nl_130, nl_144, nl_160, nl_240, nl_241, nl_255, nl_256, nl_400, nl_800, nl_900, nl_999, nl_1000, nl_1001, nl_1024, nl_1103, nl_1928, nl_4321, nl_5560, nl_12345, nl_1000000, nl_1000003, nl_252645135, nl_858993459, nl_1431655765, nl_1000000000, nI_add, pk_mul, n_sub, n_neg, n_cl, leT, leF, ltT, ltF, eqT, eqF, kbT, s_II, s_In, s_IJ, s_IA, s_IL, s_IR, s_IC, s_JI, s_JJ, s_Jn, s_JA, s_JL, s_JR, s_JC, s_AI, s_AJ, s_AA, s_An, s_AL, s_AR, s_AC, s_LI, s_LJ, s_LA, s_LL, s_Ln, s_LR, s_LC, ll_0, ll_1, ll_2, ll_7, ll_8, ll_9, ll_10, ll_20, ll_23, ll_24, ll_26, ll_30, ll_32, ll_48, ll_96, ll_240, ll_256, ll_294, ll_498, ll_999, ll_1000, ll_1103, ll_1476, ll_12345, ll_14836, ll_65536, ll_1000000, ll_1000003, ll_1048576, ll_1000000000, L_leT, L_leF, L_ltT, L_ltF, L_eqT, L_eqF, L_div, not_false_eq_true] <;> rfl
  · refine ⟨S, Fr.refl S, Or.inr ⟨by omega, h0, ?_⟩⟩
    by_cases c : a < b
    · simp (disch := omega) only [k_let, Option.bind_some, ↓reduceIte, eq_self, true_or, or_true, n01_0, n01_1, kb_or, kb_0T, kb_0F, vn_0, vn_1, vn_k, nl_0, nl_1, nl_2, nl_3, nl_4, nl_5, nl_6, nl_7, nl_8, nl_9, nl_10, nl_11, nl_12, nl_13, nl_14, nl_15, nl_16, nl_20, nl_21, nl_22, nl_23, nl_24, nl_25, nl_26, nl_27, nl_28, nl_29, nl_30, nl_31, nl_32, nl_40, nl_41, nl_42, nl_43, nl_45, nl_47, nl_48, nl_50, nl_57, nl_59, nl_60, nl_61, nl_62, nl_63, nl_64, nl_91, nl_93, nl_94, nl_97, nl_98, nl_100, nl_110, nl_122, nl_130, nl_144, nl_160, nl_240, nl_241, nl_255, nl_256, nl_400, nl_800, nl_900, nl_999, nl_1000, nl_1001, nl_1024, nl_1103, nl_1928, nl_4321, nl_5560, nl_12345, nl_1000000, nl_1000003, nl_252645135, nl_858993459, nl_1431655765, nl_1000000000, nI_add, pk_mul, n_sub, n_neg, n_cl, leT, leF, ltT, ltF, eqT, eqF, kbT, s_II, s_In, s_IJ, s_IA, s_IL, s_IR, s_IC, s_JI, s_JJ, s_Jn, s_JA, s_JL, s_JR, s_JC, s_AI, s_AJ, s_AA, s_An, s_AL, s_AR, s_AC, s_LI, s_LJ, s_LA, s_LL, s_Ln, s_LR, s_LC, ll_0, ll_1, ll_2, ll_7, ll_8, ll_9, ll_10, ll_20, ll_23, ll_24, ll_26, ll_30, ll_32, ll_48, ll_96, ll_240, ll_256, ll_294, ll_498, ll_999, ll_1000, ll_1103, ll_1476, ll_12345, ll_14836, ll_65536, ll_1000000, ll_1000003, ll_1048576, ll_1000000000, L_leT, L_leF, L_ltT, L_ltF, L_eqT, L_eqF]; simp only [c, if_pos]; rfl
    · simp (disch := omega) only [k_let, Option.bind_some, ↓reduceIte, eq_self, true_or, or_true, n01_0, n01_1, kb_or, kb_0T, kb_0F, vn_0, vn_1, vn_k, nl_0, nl_1, nl_2, nl_3, nl_4, nl_5, nl_6, nl_7, nl_8, nl_9, nl_10, nl_11, nl_12, nl_13, nl_14, nl_15, nl_16, nl_20, nl_21, nl_22, nl_23, nl_24, nl_25, nl_26, nl_27, nl_28, nl_29, nl_30, nl_31, nl_32, nl_40, nl_41, nl_42, nl_43, nl_45, nl_47, nl_48, nl_50, nl_57, nl_59, nl_60, nl_61, nl_62, nl_63, nl_64, nl_91, nl_93, nl_94, nl_97, nl_98, nl_100, nl_110, nl_122, nl_130, nl_144, nl_160, nl_240, nl_241, nl_255, nl_256, nl_400, nl_800, nl_900, nl_999, nl_1000, nl_1001, nl_1024, nl_1103, nl_1928, nl_4321, nl_5560, nl_12345, nl_1000000, nl_1000003, nl_252645135, nl_858993459, nl_1431655765, nl_1000000000, nI_add, pk_mul, n_sub, n_neg, n_cl, leT, leF, ltT, ltF, eqT, eqF, kbT, s_II, s_In, s_IJ, s_IA, s_IL, s_IR, s_IC, s_JI, s_JJ, s_Jn, s_JA, s_JL, s_JR, s_JC, s_AI, s_AJ, s_AA, s_An, s_AL, s_AR, s_AC, s_LI, s_LJ, s_LA, s_LL, s_Ln, s_LR, s_LC, ll_0, ll_1, ll_2, ll_7, ll_8, ll_9, ll_10, ll_20, ll_23, ll_24, ll_26, ll_30, ll_32, ll_48, ll_96, ll_240, ll_256, ll_294, ll_498, ll_999, ll_1000, ll_1103, ll_1476, ll_12345, ll_14836, ll_65536, ll_1000000, ll_1000003, ll_1048576, ll_1000000000, L_leT, L_leF, L_ltT, L_ltF, L_eqT, L_eqF]; simp only [c, if_neg, not_false_eq_true]; rfl
  · refine ⟨S, Fr.refl S, Or.inr ⟨by omega, h0, ?_⟩⟩
    by_cases c : b < a
    · simp (disch := omega) only [k_let, Option.bind_some, ↓reduceIte, eq_self, true_or, or_true, n01_0, n01_1, kb_or, kb_0T, kb_0F, vn_0, vn_1, vn_k, nl_0, nl_1, nl_2, nl_3, nl_4, nl_5, nl_6, nl_7, nl_8, nl_9, nl_10, nl_11, nl_12, nl_13, nl_14, nl_15, nl_16, nl_20, nl_21, nl_22, nl_23, nl_24, nl_25, nl_26, nl_27, nl_28, nl_29, nl_30, nl_31, nl_32, nl_40, nl_41, nl_42, nl_43, nl_45, nl_47, nl_48, nl_50, nl_57, nl_59, nl_60, nl_61, nl_62, nl_63, nl_64, nl_91, nl_93, nl_94, nl_97, nl_98, nl_100, nl_110, nl_122, nl_130, nl_144, nl_160, nl_240, nl_241, nl_255, nl_256, nl_400, nl_800, nl_900, nl_999, nl_1000, nl_1001, nl_1024, nl_1103, nl_1928, nl_4321, nl_5560, nl_12345, nl_1000000, nl_1000003, nl_252645135, nl_858993459, nl_1431655765, nl_1000000000, nI_add, pk_mul, n_sub, n_neg, n_cl, leT, leF, ltT, ltF, eqT, eqF, kbT, s_II, s_In, s_IJ, s_IA, s_IL, s_IR, s_IC, s_JI, s_JJ, s_Jn, s_JA, s_JL, s_JR, s_JC, s_AI, s_AJ, s_AA, s_An, s_AL, s_AR, s_AC, s_LI, s_LJ, s_LA, s_LL, s_Ln, s_LR, s_LC, ll_0, ll_1, ll_2, ll_7, ll_8, ll_9, ll_10, ll_20, ll_23, ll_24, ll_26, ll_30, ll_32, ll_48, ll_96, ll_240, ll_256, ll_294, ll_498, ll_999, ll_1000, ll_1103, ll_1476, ll_12345, ll_14836, ll_65536, ll_1000000, ll_1000003, ll_1048576, ll_1000000000, L_leT, L_leF, L_ltT, L_ltF, L_eqT, L_eqF]; simp only [c, if_pos]; rfl
    · simp (disch := omega) only [k_let, Option.bind_some, ↓reduceIte, eq_self, true_or, or_true, n01_0, n01_1, kb_or, kb_0T, kb_0F, vn_0, vn_1, vn_k, nl_0, nl_1, nl_2, nl_3, nl_4, nl_5, nl_6, nl_7, nl_8, nl_9, nl_10, nl_11, nl_12, nl_13, nl_14, nl_15, nl_16, nl_20, nl_21, nl_22, nl_23, nl_24, nl_25, nl_26, nl_27, nl_28, nl_29, nl_30, nl_31, nl_32, nl_40, nl_41, nl_42, nl_43, nl_45, nl_47, nl_48, nl_50, nl_57, nl_59, nl_60, nl_61, nl_62, nl_63, nl_64, nl_91, nl_93, nl_94, nl_97, nl_98, nl_100, nl_110, nl_122, nl_130, nl_144, nl_160, nl_240, nl_241, nl_255, nl_256, nl_400, nl_800, nl_900, nl_999, nl_1000, nl_1001, nl_1024, nl_1103, nl_1928, nl_4321, nl_5560, nl_12345, nl_1000000, nl_1000003, nl_252645135, nl_858993459, nl_1431655765, nl_1000000000, nI_add, pk_mul, n_sub, n_neg, n_cl, leT, leF, ltT, ltF, eqT, eqF, kbT, s_II, s_In, s_IJ, s_IA, s_IL, s_IR, s_IC, s_JI, s_JJ, s_Jn, s_JA, s_JL, s_JR, s_JC, s_AI, s_AJ, s_AA, s_An, s_AL, s_AR, s_AC, s_LI, s_LJ, s_LA, s_LL, s_Ln, s_LR, s_LC, ll_0, ll_1, ll_2, ll_7, ll_8, ll_9, ll_10, ll_20, ll_23, ll_24, ll_26, ll_30, ll_32, ll_48, ll_96, ll_240, ll_256, ll_294, ll_498, ll_999, ll_1000, ll_1103, ll_1476, ll_12345, ll_14836, ll_65536, ll_1000000, ll_1000003, ll_1048576, ll_1000000000, L_leT, L_leF, L_ltT, L_ltF, L_eqT, L_eqF]; simp only [c, if_neg, not_false_eq_true]; rfl
  · refine ⟨S, Fr.refl S, Or.inr ⟨by omega, h0, ?_⟩⟩
    by_cases c : a = b
    · simp (disch := omega) only [k_let, Option.bind_some, ↓reduceIte, eq_self, true_or, or_true, n01_0, n01_1, kb_or, kb_0T, kb_0F, vn_0, vn_1, vn_k, nl_0, nl_1, nl_2, nl_3, nl_4, nl_5, nl_6, nl_7, nl_8, nl_9, nl_10, nl_11, nl_12, nl_13, nl_14, nl_15, nl_16, nl_20, nl_21, nl_22, nl_23, nl_24, nl_25, nl_26, nl_27, nl_28, nl_29, nl_30, nl_31, nl_32, nl_40, nl_41, nl_42, nl_43, nl_45, nl_47, nl_48, nl_50, nl_57, nl_59, nl_60, nl_61, nl_62, nl_63, nl_64, nl_91, nl_93, nl_94, nl_97, nl_98, nl_100, nl_110, nl_122, nl_130, nl_144, nl_160, nl_240, nl_241, nl_255, nl_256, nl_400, nl_800, nl_900, nl_999, nl_1000, nl_1001, nl_1024, nl_1103, nl_1928, nl_4321, nl_5560, nl_12345, nl_1000000, nl_1000003, nl_252645135, nl_858993459, nl_1431655765, nl_1000000000, nI_add, pk_mul, n_sub, n_neg, n_cl, leT, leF, ltT, ltF, eqT, eqF, kbT, s_II, s_In, s_IJ, s_IA, s_IL, s_IR, s_IC, s_JI, s_JJ, s_Jn, s_JA, s_JL, s_JR, s_JC, s_AI, s_AJ, s_AA, s_An, s_AL, s_AR, s_AC, s_LI, s_LJ, s_LA, s_LL, s_Ln, s_LR, s_LC, ll_0, ll_1, ll_2, ll_7, ll_8, ll_9, ll_10, ll_20, ll_23, ll_24, ll_26, ll_30, ll_32, ll_48, ll_96, ll_240, ll_256, ll_294, ll_498, ll_999, ll_1000, ll_1103, ll_1476, ll_12345, ll_14836, ll_65536, ll_1000000, ll_1000003, ll_1048576, ll_1000000000, L_leT, L_leF, L_ltT, L_ltF, L_eqT, L_eqF]; simp only [c, if_pos]; rfl
    · simp (disch := omega) only [k_let, Option.bind_some, ↓reduceIte, eq_self, true_or, or_true, n01_0, n01_1, kb_or, kb_0T, kb_0F, vn_0, vn_1, vn_k, nl_0, nl_1, nl_2, nl_3, nl_4, nl_5, nl_6, nl_7, nl_8, nl_9, nl_10, nl_11, nl_12, nl_13, nl_14, nl_15, nl_16, nl_20, nl_21, nl_22, nl_23, nl_24, nl_25, nl_26, nl_27, nl_28, nl_29, nl_30, nl_31, nl_32, nl_40, nl_41, nl_42, nl_43, nl_45, nl_47, nl_48, nl_50, nl_57, nl_59, nl_60, nl_61, nl_62, nl_63, nl_64, nl_91, nl_93, nl_94, nl_97, nl_98, nl_100, nl_110, nl_122, nl_130, nl_144, nl_160, nl_240, nl_241, nl_255, nl_256, nl_400, nl_800, nl_900, nl_999, nl_1000, nl_1001, nl_1024, nl_1103, nl_1928, nl_4321, nl_5560, nl_12345, nl_1000000, nl_1000003, nl_252645135, nl_858993459, nl_1431655765, nl_1000000000, nI_add, pk_mul, n_sub, n_neg, n_cl, leT, leF, ltT, ltF, eqT, eqF, kbT, s_II, s_In, s_IJ, s_IA, s_IL, s_IR, s_IC, s_JI, s_JJ, s_Jn, s_JA, s_JL, s_JR, s_JC, s_AI, s_AJ, s_AA, s_An, s_AL, s_AR, s_AC, s_LI, s_LJ, s_LA, s_LL, s_Ln, s_LR, s_LC, ll_0, ll_1, ll_2, ll_7, ll_8, ll_9, ll_10, ll_20, ll_23, ll_24, ll_26, ll_30, ll_32, ll_48, ll_96, ll_240, ll_256, ll_294, ll_498, ll_999, ll_1000, ll_1103, ll_1476, ll_12345, ll_14836, ll_65536, ll_1000000, ll_1000003, ll_1048576, ll_1000000000, L_leT, L_leF, L_ltT, L_ltF, L_eqT, L_eqF]; simp only [c, if_neg, not_false_eq_true]; rfl
/-- how the reference's reckoning ends -/
def endM (U : St) : Option (List Int) → Prop
  | none => gI U 48 = nI 1
  | some [] => gI U 48 = nI 0 ∧ gJ U 1 = lZ 0
  | some (a :: st) => gI U 48 = nI 0 ∧ gJ U 1 = lZ (stg (a :: st) 0)
theorem mj_end {U : St} {st : List Int} {tp p f : Nat} (htp : tp ≤ 400) (hp : p ≤ 401) (h : tp ≤ p) (hS : StkM U st) (hL : st.length ≤ 400) (h0 : gI U 48 = nI 0) : ∃ V, Fr [48] [1] [] [65] U V ∧ f_X12_reckonAll_10 (f + 1) (nI tp) (nI st.length) (nI p) U = some V ∧ endM V (some st) := by
  cases st with
  | nil =>
    refine ⟨sJ U 1 (lZ 0), (Fr.refl U).sJ rfl _, ?_, h0, s_JJ _ _ _⟩
    rw [f_X12_reckonAll_10, f_X12_reckonAll_245]
    simp (disch := omega) only [k_let, Option.bind_some, ↓reduceIte, eq_self, true_or, or_true, n01_0, n01_1, kb_or, kb_0T, kb_0F, vn_0, vn_1, vn_k, nl_0, nl_1, nl_2, nl_3, nl_4, nl_5, nl_6, nl_7, nl_8, nl_9, nl_10, nl_11, nl_12, nl_13, nl_14, nl_15, nl_16, nl_20, nl_21, nl_22, nl_23, nl_24, nl_25, nl_26, nl_27, nl_28, nl_29, nl_30, nl_31, nl_32, nl_40, nl_41, nl_42, nl_43, nl_45, nl_47, nl_48, nl_50, nl_57, nl_59, nl_60, nl_61, nl_62, nl_63, nl_64, nl_91, nl_93, nl_94, nl_97, nl_98, nl_100, nl_110, nl_122, nl_130, nl_144, nl_160, nl_240, nl_241, nl_255, nl_256, nl_400, nl_800, nl_900, nl_999, nl_1000, nl_1001, nl_1024, nl_1103, nl_1928, nl_4321, nl_5560, nl_12345, nl_1000000, nl_1000003, nl_252645135, nl_858993459, nl_1431655765, nl_1000000000, nI_add, pk_mul, n_sub, n_neg, n_cl, leT, leF, ltT, ltF, eqT, eqF, kbT, s_II, s_In, s_IJ, s_IA, s_IL, s_IR, s_IC, s_JI, s_JJ, s_Jn, s_JA, s_JL, s_JR, s_JC, s_AI, s_AJ, s_AA, s_An, s_AL, s_AR, s_AC, s_LI, s_LJ, s_LA, s_LL, s_Ln, s_LR, s_LC, ll_0, ll_1, ll_2, ll_7, ll_8, ll_9, ll_10, ll_20, ll_23, ll_24, ll_26, ll_30, ll_32, ll_48, ll_96, ll_240, ll_256, ll_294, ll_498, ll_999, ll_1000, ll_1103, ll_1476, ll_12345, ll_14836, ll_65536, ll_1000000, ll_1000003, ll_1048576, ll_1000000000, f_X12_reckonAll_260, List.length_nil]
  | cons a st =>
    refine ⟨sJ U 1 (lZ (stg (a :: st) 0)), (Fr.refl U).sJ rfl _, ?_, h0, s_JJ _ _ _⟩
    have hL' : st.length + 1 ≤ 400 := hL
    have g0 := hS.1 0 (show 0 < st.length + 1 by omega)
    rw [f_X12_reckonAll_10, f_X12_reckonAll_245]
    simp (disch := omega) only [k_let, Option.bind_some, ↓reduceIte, eq_self, true_or, or_true, n01_0, n01_1, kb_or, kb_0T, kb_0F, vn_0, vn_1, vn_k, nl_0, nl_1, nl_2, nl_3, nl_4, nl_5, nl_6, nl_7, nl_8, nl_9, nl_10, nl_11, nl_12, nl_13, nl_14, nl_15, nl_16, nl_20, nl_21, nl_22, nl_23, nl_24, nl_25, nl_26, nl_27, nl_28, nl_29, nl_30, nl_31, nl_32, nl_40, nl_41, nl_42, nl_43, nl_45, nl_47, nl_48, nl_50, nl_57, nl_59, nl_60, nl_61, nl_62, nl_63, nl_64, nl_91, nl_93, nl_94, nl_97, nl_98, nl_100, nl_110, nl_122, nl_130, nl_144, nl_160, nl_240, nl_241, nl_255, nl_256, nl_400, nl_800, nl_900, nl_999, nl_1000, nl_1001, nl_1024, nl_1103, nl_1928, nl_4321, nl_5560, nl_12345, nl_1000000, nl_1000003, nl_252645135, nl_858993459, nl_1431655765, nl_1000000000, nI_add, pk_mul, n_sub, n_neg, n_cl, leT, leF, ltT, ltF, eqT, eqF, kbT, s_II, s_In, s_IJ, s_IA, s_IL, s_IR, s_IC, s_JI, s_JJ, s_Jn, s_JA, s_JL, s_JR, s_JC, s_AI, s_AJ, s_AA, s_An, s_AL, s_AR, s_AC, s_LI, s_LJ, s_LA, s_LL, s_Ln, s_LR, s_LC, ll_0, ll_1, ll_2, ll_7, ll_8, ll_9, ll_10, ll_20, ll_23, ll_24, ll_26, ll_30, ll_32, ll_48, ll_96, ll_240, ll_256, ll_294, ll_498, ll_999, ll_1000, ll_1103, ll_1476, ll_12345, ll_14836, ll_65536, ll_1000000, ll_1000003, ll_1048576, ll_1000000000, f_X12_reckonAll_260, List.length_cons, g0]
theorem mj_broken {U : St} {k tp p f : Nat} (hk : k ≤ 400) (htp : tp ≤ 400) (hp : p ≤ 401) (h1 : gI U 48 = nI 1) : ∃ V, Fr [48] [1] [] [65] U V ∧ f_X12_reckonAll_10 (f + 1) (nI tp) (nI k) (nI p) U = some V ∧ endM V none := by
  have : ∃ V, Fr [48] [1] [] [65] U V ∧ f_X12_reckonAll_245 (nI k) U = some V ∧ gI V 48 = nI 1 := by
    by_cases c : k = 0
    · subst c
      refine ⟨sJ U 1 (lZ 0), (Fr.refl U).sJ rfl _, ?_, h1⟩
      simp (disch := omega) only [k_let, Option.bind_some, ↓reduceIte, eq_self, true_or, or_true, n01_0, n01_1, kb_or, kb_0T, kb_0F, vn_0, vn_1, vn_k, nl_0, nl_1, nl_2, nl_3, nl_4, nl_5, nl_6, nl_7, nl_8, nl_9, nl_10, nl_11, nl_12, nl_13, nl_14, nl_15, nl_16, nl_20, nl_21, nl_22, nl_23, nl_24, nl_25, nl_26, nl_27, nl_28, nl_29, nl_30, nl_31, nl_32, nl_40, nl_41, nl_42, nl_43, nl_45, nl_47, nl_48, nl_50, nl_57, nl_59, nl_60, nl_61, nl_62, nl_63, nl_64, nl_91, nl_93, nl_94, nl_97, nl_98, nl_100, nl_110, nl_122, nl_130, nl_144, nl_160, nl_240, nl_241, nl_255, nl_256, nl_400, nl_800, nl_900, nl_999, nl_1000, nl_1001, nl_1024, nl_1103, nl_1928, nl_4321, nl_5560, nl_12345, nl_1000000, nl_1000003, nl_252645135, nl_858993459, nl_1431655765, nl_1000000000, nI_add, pk_mul, n_sub, n_neg, n_cl, leT, leF, ltT, ltF, eqT, eqF, kbT, s_II, s_In, s_IJ, s_IA, s_IL, s_IR, s_IC, s_JI, s_JJ, s_Jn, s_JA, s_JL, s_JR, s_JC, s_AI, s_AJ, s_AA, s_An, s_AL, s_AR, s_AC, s_LI, s_LJ, s_LA, s_LL, s_Ln, s_LR, s_LC, ll_0, ll_1, ll_2, ll_7, ll_8, ll_9, ll_10, ll_20, ll_23, ll_24, ll_26, ll_30, ll_32, ll_48, ll_96, ll_240, ll_256, ll_294, ll_498, ll_999, ll_1000, ll_1103, ll_1476, ll_12345, ll_14836, ll_65536, ll_1000000, ll_1000003, ll_1048576, ll_1000000000, f_X12_reckonAll_245, f_X12_reckonAll_260]
    · refine ⟨sJ U 1 (gL U 65 0), (Fr.refl U).sJ rfl _, ?_, h1⟩
      simp (disch := omega) only [k_let, Option.bind_some, ↓reduceIte, eq_self, true_or, or_true, n01_0, n01_1, kb_or, kb_0T, kb_0F, vn_0, vn_1, vn_k, nl_0, nl_1, nl_2, nl_3, nl_4, nl_5, nl_6, nl_7, nl_8, nl_9, nl_10, nl_11, nl_12, nl_13, nl_14, nl_15, nl_16, nl_20, nl_21, nl_22, nl_23, nl_24, nl_25, nl_26, nl_27, nl_28, nl_29, nl_30, nl_31, nl_32, nl_40, nl_41, nl_42, nl_43, nl_45, nl_47, nl_48, nl_50, nl_57, nl_59, nl_60, nl_61, nl_62, nl_63, nl_64, nl_91, nl_93, nl_94, nl_97, nl_98, nl_100, nl_110, nl_122, nl_130, nl_144, nl_160, nl_240, nl_241, nl_255, nl_256, nl_400, nl_800, nl_900, nl_999, nl_1000, nl_1001, nl_1024, nl_1103, nl_1928, nl_4321, nl_5560, nl_12345, nl_1000000, nl_1000003, nl_252645135, nl_858993459, nl_1431655765, nl_1000000000, nI_add, pk_mul, n_sub, n_neg, n_cl, leT, leF, ltT, ltF, eqT, eqF, kbT, s_II, s_In, s_IJ, s_IA, s_IL, s_IR, s_IC, s_JI, s_JJ, s_Jn, s_JA, s_JL, s_JR, s_JC, s_AI, s_AJ, s_AA, s_An, s_AL, s_AR, s_AC, s_LI, s_LJ, s_LA, s_LL, s_Ln, s_LR, s_LC, ll_0, ll_1, ll_2, ll_7, ll_8, ll_9, ll_10, ll_20, ll_23, ll_24, ll_26, ll_30, ll_32, ll_48, ll_96, ll_240, ll_256, ll_294, ll_498, ll_999, ll_1000, ll_1103, ll_1476, ll_12345, ll_14836, ll_65536, ll_1000000, ll_1000003, ll_1048576, ll_1000000000, f_X12_reckonAll_245, f_X12_reckonAll_260]
  obtain ⟨V, v1, v2, v3⟩ := this
  refine ⟨V, v1, ?_, v3⟩
  rw [← v2, f_X12_reckonAll_10]
  by_cases c : tp ≤ p
  · simp (disch := omega) only [k_let, Option.bind_some, ↓reduceIte, eq_self, true_or, or_true, n01_0, n01_1, kb_or, kb_0T, kb_0F, vn_0, vn_1, vn_k, nl_0, nl_1, nl_2, nl_3, nl_4, nl_5, nl_6, nl_7, nl_8, nl_9, nl_10, nl_11, nl_12, nl_13, nl_14, nl_15, nl_16, nl_20, nl_21, nl_22, nl_23, nl_24, nl_25, nl_26, nl_27, nl_28, nl_29, nl_30, nl_31, nl_32, nl_40, nl_41, nl_42, nl_43, nl_45, nl_47, nl_48, nl_50, nl_57, nl_59, nl_60, nl_61, nl_62, nl_63, nl_64, nl_91, nl_93, nl_94, nl_97, nl_98, nl_100, nl_110, nl_122, nl_130, nl_144, nl_160, nl_240, nl_241, nl_255, nl_256, nl_400, nl_800, nl_900, nl_999, nl_1000, nl_1001, nl_1024, nl_1103, nl_1928, nl_4321, nl_5560, nl_12345, nl_1000000, nl_1000003, nl_252645135, nl_858993459, nl_1431655765, nl_1000000000, nI_add, pk_mul, n_sub, n_neg, n_cl, leT, leF, ltT, ltF, eqT, eqF, kbT, s_II, s_In, s_IJ, s_IA, s_IL, s_IR, s_IC, s_JI, s_JJ, s_Jn, s_JA, s_JL, s_JR, s_JC, s_AI, s_AJ, s_AA, s_An, s_AL, s_AR, s_AC, s_LI, s_LJ, s_LA, s_LL, s_Ln, s_LR, s_LC]
  · simp (disch := omega) only [k_let, Option.bind_some, ↓reduceIte, eq_self, true_or, or_true, n01_0, n01_1, kb_or, kb_0T, kb_0F, vn_0, vn_1, vn_k, nl_0, nl_1, nl_2, nl_3, nl_4, nl_5, nl_6, nl_7, nl_8, nl_9, nl_10, nl_11, nl_12, nl_13, nl_14, nl_15, nl_16, nl_20, nl_21, nl_22, nl_23, nl_24, nl_25, nl_26, nl_27, nl_28, nl_29, nl_30, nl_31, nl_32, nl_40, nl_41, nl_42, nl_43, nl_45, nl_47, nl_48, nl_50, nl_57, nl_59, nl_60, nl_61, nl_62, nl_63, nl_64, nl_91, nl_93, nl_94, nl_97, nl_98, nl_100, nl_110, nl_122, nl_130, nl_144, nl_160, nl_240, nl_241, nl_255, nl_256, nl_400, nl_800, nl_900, nl_999, nl_1000, nl_1001, nl_1024, nl_1103, nl_1928, nl_4321, nl_5560, nl_12345, nl_1000000, nl_1000003, nl_252645135, nl_858993459, nl_1431655765, nl_1000000000, nI_add, pk_mul, n_sub, n_neg, n_cl, leT, leF, ltT, ltF, eqT, eqF, kbT, s_II, s_In, s_IJ, s_IA, s_IL, s_IR, s_IC, s_JI, s_JJ, s_Jn, s_JA, s_JL, s_JR, s_JC, s_AI, s_AJ, s_AA, s_An, s_AL, s_AR, s_AC, s_LI, s_LJ, s_LA, s_LL, s_Ln, s_LR, s_LC, h1]
set_option maxHeartbeats 16000000 in
theorem mj_reck {L tp : Nat} {g : Nat → Int32} {E : Nat → Int} (hE : EnvOk E) (htp : tp ≤ 400) : ∀ (n p : Nat) (st : List Int) (U : St) (f : Nat) (res : Option (List Int)), rn (Fm g) E 400 n p tp st = some res → AtM L g E U → StkM U st → gI U 48 = nI 0 → st.length ≤ 400 → n < f → p ≤ 401 →
    ∃ V, Fr [48] [1] [] [65] U V ∧ f_X12_reckonAll_10 f (nI tp) (nI st.length) (nI p) U = some V ∧ endM V res := by
  intro n
  induction n with
  | zero =>
    intro p st U f res hr hA hS h0 hL hf hp
    obtain ⟨f, rfl⟩ : ∃ g, f = g + 1 := ⟨f - 1, by omega⟩
    by_cases c : tp ≤ p
    · rw [rn_end c] at hr
      cases hr
      exact mj_end htp hp c hS hL h0
    · exact absurd hr (by show ¬ (if tp ≤ p then _ else _) = _; rw [if_neg c]; intro h; cases h)
  | succ n ih =>
    intro p st U f res hr hA hS h0 hL hf hp
    obtain ⟨f, rfl⟩ : ∃ g, f = g + 1 := ⟨f - 1, by omega⟩
    by_cases c : tp ≤ p
    · rw [rn_end c] at hr
      cases hr
      exact mj_end htp hp c hS hL h0
    · rw [rn_go (by omega)] at hr
      obtain ⟨A1, A2, A3, A4⟩ := hA
      have hA : AtM L g E U := ⟨A1, A2, A3, A4⟩
      cases hF : Fm g p with
      | mk op arg =>
      rw [hF] at hr
      replace hr : rn1 E 400 p op arg st _ = some res := hr
      unfold rn1 at hr
      unfold Fm at hF
      have gx : gA U 53 (L + 98 + 2 * p) = g (98 + 2 * p) := by rw [Nat.add_assoc]; exact A3 _
      have gy : gA U 53 (L + 98 + 2 * p + 1) = g (98 + 2 * p + 1) := by rw [Nat.add_assoc, Nat.add_assoc]; exact A3 _
      have go : ∀ {V : St} {st1 : List Int} {p1 : Nat}, Fr [48] [1] [] [65] U V → StkM V st1 → gI V 48 = nI 0 → st1.length ≤ 400 → p1 ≤ 401 → rn (Fm g) E 400 n p1 tp st1 = some res → ∃ W, Fr [48] [1] [] [65] U W ∧ f_X12_reckonAll_10 f (nI tp) (nI st1.length) (nI p1) V = some W ∧ endM W res := fun {V st1 p1} fV hS1 h01 hL1 hp1 hr1 => by
        obtain ⟨W, w1, w2, w3⟩ := ih p1 st1 V f res hr1 (hA.fr fV rfl rfl rfl) hS1 h01 hL1 (by omega) hp1
        exact ⟨W, fV.trans w1, w2, w3⟩
      rcases dR_d hF with h99 | ⟨rfl, hx, ha⟩ | ⟨rfl, w, hw, ha, hx⟩ | ⟨rfl, hx, ha⟩ | ⟨rfl, hx, ha⟩ | ⟨o2, o9, hx⟩
      · subst h99
        exact absurd hr (by simp)
      · rw [if_pos rfl] at hr
        by_cases cl : st.length < 400 ∧ -1000000000 ≤ arg ∧ arg ≤ 1000000000
        · rw [if_pos cl] at hr
          have cl1 := cl.1
          obtain ⟨W, w1, w2, w3⟩ := go (V := sL U 65 st.length (lZ arg)) ((Fr.refl U).sL rfl _ _) (hS.push cl.2) h0 cl.1 (show p + 1 ≤ 401 by omega) hr
          refine ⟨W, w1, ?_, w3⟩
          rw [← w2, f_X12_reckonAll_10]
          have hy : (g (98 + 2 * p + 1)).toInt64 = lZ arg := by rw [L_x, ha]
          simp (maxSteps := 1000000) (disch := omega) only [k_let, Option.bind_some, ↓reduceIte, eq_self, true_or, or_true, n01_0, n01_1, kb_or, kb_0T, kb_0F, vn_0, vn_1, vn_k, nl_0, nl_1, nl_2, nl_3, nl_4, nl_5, nl_6, nl_7, nl_8, nl_9, nl_10, nl_11, nl_12, nl_13, nl_14, nl_15, nl_16, nl_20, nl_21, nl_22, nl_23, nl_24, nl_25, nl_26, nl_27, nl_28, nl_29, nl_30, nl_31, nl_32, nl_40, nl_41, nl_42, nl_43, nl_45, nl_47, nl_48, nl_50, nl_57, nl_59, nl_60, nl_61, nl_62, nl_63, nl_64, nl_91, nl_93, nl_94, nl_97, nl_98, nl_100, nl_110, nl_122, nl_130, nl_144, nl_160, nl_240, nl_241, nl_255, nl_256, nl_400, nl_800, nl_900, nl_999, nl_1000, nl_1001, nl_1024, nl_1103, nl_1928, nl_4321, nl_5560, nl_12345, nl_1000000, nl_1000003, nl_252645135, nl_858993459, nl_1431655765, nl_1000000000, nI_add, pk_mul, n_sub, n_neg, n_cl, leT, leF, ltT, ltF, eqT, eqF, kbT, s_II, s_In, s_IJ, s_IA, s_IL, s_IR, s_IC, s_JI, s_JJ, s_Jn, s_JA, s_JL, s_JR, s_JC, s_AI, s_AJ, s_AA, s_An, s_AL, s_AR, s_AC, s_LI, s_LJ, s_LA, s_LL, s_Ln, s_LR, s_LC, h0, A1, gx, gy, hx, hy, f_X12_reckonAll_96, f_X12_reckonAll_242, List.length_cons]
        · rw [if_neg cl] at hr; cases hr
      · rw [if_neg (by decide), if_pos rfl] at hr
        by_cases cl : st.length < 400 ∧ 0 ≤ arg ∧ arg < 7
        · rw [if_pos cl] at hr
          have cl1 := cl.1
          rw [ha, Int.toNat_natCast] at hr
          have hEw := hE w hw
          obtain ⟨W, w1, w2, w3⟩ := go (V := sL U 65 st.length (lZ (E w))) ((Fr.refl U).sL rfl _ _) (hS.push ⟨by omega, by omega⟩) h0 cl.1 (show p + 1 ≤ 401 by omega) hr
          refine ⟨W, w1, ?_, w3⟩
          rw [← w2, f_X12_reckonAll_10]
          simp (maxSteps := 1000000) (disch := omega) only [k_let, Option.bind_some, ↓reduceIte, eq_self, true_or, or_true, n01_0, n01_1, kb_or, kb_0T, kb_0F, vn_0, vn_1, vn_k, nl_0, nl_1, nl_2, nl_3, nl_4, nl_5, nl_6, nl_7, nl_8, nl_9, nl_10, nl_11, nl_12, nl_13, nl_14, nl_15, nl_16, nl_20, nl_21, nl_22, nl_23, nl_24, nl_25, nl_26, nl_27, nl_28, nl_29, nl_30, nl_31, nl_32, nl_40, nl_41, nl_42, nl_43, nl_45, nl_47, nl_48, nl_50, nl_57, nl_59, nl_60, nl_61, nl_62, nl_63, nl_64, nl_91, nl_93, nl_94, nl_97, nl_98, nl_100, nl_110, nl_122, nl_130, nl_144, nl_160, nl_240, nl_241, nl_255, nl_256, nl_400, nl_800, nl_900, nl_999, nl_1000, nl_1001, nl_1024, nl_1103, nl_1928, nl_4321, nl_5560, nl_12345, nl_1000000, nl_1000003, nl_252645135, nl_858993459, nl_1431655765, nl_1000000000, nI_add, pk_mul, n_sub, n_neg, n_cl, leT, leF, ltT, ltF, eqT, eqF, kbT, s_II, s_In, s_IJ, s_IA, s_IL, s_IR, s_IC, s_JI, s_JJ, s_Jn, s_JA, s_JL, s_JR, s_JC, s_AI, s_AJ, s_AA, s_An, s_AL, s_AR, s_AC, s_LI, s_LJ, s_LA, s_LL, s_Ln, s_LR, s_LC, h0, A1, gx, gy, hx, A4, f_X12_reckonAll_96, f_X12_reckonAll_242, List.length_cons]
        · rw [if_neg cl] at hr; cases hr
      · rw [if_neg (by decide), if_neg (by decide), if_neg (by decide), if_neg (by decide), if_pos rfl] at hr
        cases st with
        | nil => cases hr
        | cons v st =>
          replace hr : (if (p : Int) + 1 ≤ arg then _ else _) = some res := hr
          by_cases cp : (p : Int) + 1 ≤ arg
          · rw [if_pos cp] at hr
            have hv := hS.2 v List.mem_cons_self
            obtain ⟨hv1, hv2⟩ := hv
            have hL' : st.length + 1 ≤ 400 := hL
            have ht := hS.top
            obtain ⟨ey, -, ey2⟩ := n_of (x := g (98 + 2 * p + 1)) (by omega)
            have hki : arg.toNat = (g (98 + 2 * p + 1)).toNatClampNeg := by omega
            by_cases cv : v = 0
            · rw [if_pos cv, hki] at hr
              subst cv
              have hrun : ∃ W, Fr [48] [1] [] [65] U W ∧ f_X12_reckonAll_10 f (nI tp) (nI ((0 : Int) :: st).length) (nI (g (98 + 2 * p + 1)).toNatClampNeg) U = some W ∧ endM W res := by
                replace hr : rn (Fm g) E 400 n (g (98 + 2 * p + 1)).toNatClampNeg tp ((0 : Int) :: st) = some res := hr
                by_cases kk : (g (98 + 2 * p + 1)).toNatClampNeg ≤ 401
                · exact go (Fr.refl U) hS h0 hL kk hr
                · rw [rn_end (by omega)] at hr
                  cases hr
                  obtain ⟨f, rfl⟩ : ∃ g, f = g + 1 := ⟨f - 1, by omega⟩
                  obtain ⟨V, v1, v2, v3⟩ := mj_end (f := f) htp (show tp ≤ 401 by omega) (Nat.le_refl tp) hS hL h0
                  refine ⟨V, v1, ?_, v3⟩
                  have hb := Int32.toNatClampNeg_lt (g (98 + 2 * p + 1))
                  rw [← v2, f_X12_reckonAll_10, f_X12_reckonAll_10]
                  simp (disch := omega) only [leT, leF, ltT, ltF, eqT, eqF, kbT, ↓reduceIte]
              obtain ⟨W, w1, w2, w3⟩ := hrun
              refine ⟨W, w1, ?_, w3⟩
              rw [← w2, f_X12_reckonAll_10]
              rw [← ey]
              simp (maxSteps := 1000000) (disch := omega) only [k_let, Option.bind_some, ↓reduceIte, eq_self, true_or, or_true, n01_0, n01_1, kb_or, kb_0T, kb_0F, vn_0, vn_1, vn_k, nl_0, nl_1, nl_2, nl_3, nl_4, nl_5, nl_6, nl_7, nl_8, nl_9, nl_10, nl_11, nl_12, nl_13, nl_14, nl_15, nl_16, nl_20, nl_21, nl_22, nl_23, nl_24, nl_25, nl_26, nl_27, nl_28, nl_29, nl_30, nl_31, nl_32, nl_40, nl_41, nl_42, nl_43, nl_45, nl_47, nl_48, nl_50, nl_57, nl_59, nl_60, nl_61, nl_62, nl_63, nl_64, nl_91, nl_93, nl_94, nl_97, nl_98, nl_100, nl_110, nl_122, nl_130, nl_144, nl_160, nl_240, nl_241, nl_255, nl_256, nl_400, nl_800, nl_900, nl_999, nl_1000, nl_1001, nl_1024, nl_1103, nl_1928, nl_4321, nl_5560, nl_12345, nl_1000000, nl_1000003, nl_252645135, nl_858993459, nl_1431655765, nl_1000000000, nI_add, pk_mul, n_sub, n_neg, n_cl, leT, leF, ltT, ltF, eqT, eqF, kbT, s_II, s_In, s_IJ, s_IA, s_IL, s_IR, s_IC, s_JI, s_JJ, s_Jn, s_JA, s_JL, s_JR, s_JC, s_AI, s_AJ, s_AA, s_An, s_AL, s_AR, s_AC, s_LI, s_LJ, s_LA, s_LL, s_Ln, s_LR, s_LC, ll_0, ll_1, ll_2, ll_7, ll_8, ll_9, ll_10, ll_20, ll_23, ll_24, ll_26, ll_30, ll_32, ll_48, ll_96, ll_240, ll_256, ll_294, ll_498, ll_999, ll_1000, ll_1103, ll_1476, ll_12345, ll_14836, ll_65536, ll_1000000, ll_1000003, ll_1048576, ll_1000000000, L_leT, L_leF, L_ltT, L_ltF, L_eqT, L_eqF, h0, A1, gx, gy, hx, ht, f_X12_reckonAll_228, f_X12_reckonAll_242, List.length_cons, Nat.add_sub_cancel]
            · rw [if_neg cv] at hr
              obtain ⟨W, w1, w2, w3⟩ := go (Fr.refl U) hS.pop h0 (by omega) (show p + 1 ≤ 401 by omega) hr
              refine ⟨W, w1, ?_, w3⟩
              rw [← w2, f_X12_reckonAll_10]
              have em : nI (st.length + 1) + iZ (-((1 : Nat) : Int)) = nI st.length := pk_m1 _
              simp (maxSteps := 1000000) (disch := omega) only [k_let, Option.bind_some, ↓reduceIte, eq_self, true_or, or_true, n01_0, n01_1, kb_or, kb_0T, kb_0F, vn_0, vn_1, vn_k, nl_0, nl_1, nl_2, nl_3, nl_4, nl_5, nl_6, nl_7, nl_8, nl_9, nl_10, nl_11, nl_12, nl_13, nl_14, nl_15, nl_16, nl_20, nl_21, nl_22, nl_23, nl_24, nl_25, nl_26, nl_27, nl_28, nl_29, nl_30, nl_31, nl_32, nl_40, nl_41, nl_42, nl_43, nl_45, nl_47, nl_48, nl_50, nl_57, nl_59, nl_60, nl_61, nl_62, nl_63, nl_64, nl_91, nl_93, nl_94, nl_97, nl_98, nl_100, nl_110, nl_122, nl_130, nl_144, nl_160, nl_240, nl_241, nl_255, nl_256, nl_400, nl_800, nl_900, nl_999, nl_1000, nl_1001, nl_1024, nl_1103, nl_1928, nl_4321, nl_5560, nl_12345, nl_1000000, nl_1000003, nl_252645135, nl_858993459, nl_1431655765, nl_1000000000, nI_add, pk_mul, n_sub, n_neg, n_cl, leT, leF, ltT, ltF, eqT, eqF, kbT, s_II, s_In, s_IJ, s_IA, s_IL, s_IR, s_IC, s_JI, s_JJ, s_Jn, s_JA, s_JL, s_JR, s_JC, s_AI, s_AJ, s_AA, s_An, s_AL, s_AR, s_AC, s_LI, s_LJ, s_LA, s_LL, s_Ln, s_LR, s_LC, ll_0, ll_1, ll_2, ll_7, ll_8, ll_9, ll_10, ll_20, ll_23, ll_24, ll_26, ll_30, ll_32, ll_48, ll_96, ll_240, ll_256, ll_294, ll_498, ll_999, ll_1000, ll_1103, ll_1476, ll_12345, ll_14836, ll_65536, ll_1000000, ll_1000003, ll_1048576, ll_1000000000, L_leT, L_leF, L_ltT, L_ltF, L_eqT, L_eqF, h0, A1, gx, gy, hx, ht, f_X12_reckonAll_228, f_X12_reckonAll_242, List.length_cons, Nat.add_sub_cancel, em]
          · rw [if_neg cp] at hr; cases hr
      · rw [if_neg (by decide), if_neg (by decide), if_neg (by decide), if_pos rfl] at hr
        cases st with
        | nil => cases hr
        | cons v st =>
          replace hr : (if (p : Int) + 1 ≤ arg then _ else _) = some res := hr
          by_cases cp : (p : Int) + 1 ≤ arg
          · rw [if_pos cp] at hr
            have hv := hS.2 v List.mem_cons_self
            obtain ⟨hv1, hv2⟩ := hv
            have hL' : st.length + 1 ≤ 400 := hL
            have ht := hS.top
            obtain ⟨ey, -, ey2⟩ := n_of (x := g (98 + 2 * p + 1)) (by omega)
            have hki : arg.toNat = (g (98 + 2 * p + 1)).toNatClampNeg := by omega
            by_cases cv : v = 1
            · rw [if_pos cv, hki] at hr
              subst cv
              have hrun : ∃ W, Fr [48] [1] [] [65] U W ∧ f_X12_reckonAll_10 f (nI tp) (nI ((1 : Int) :: st).length) (nI (g (98 + 2 * p + 1)).toNatClampNeg) U = some W ∧ endM W res := by
                replace hr : rn (Fm g) E 400 n (g (98 + 2 * p + 1)).toNatClampNeg tp ((1 : Int) :: st) = some res := hr
                by_cases kk : (g (98 + 2 * p + 1)).toNatClampNeg ≤ 401
                · exact go (Fr.refl U) hS h0 hL kk hr
                · rw [rn_end (by omega)] at hr
                  cases hr
                  obtain ⟨f, rfl⟩ : ∃ g, f = g + 1 := ⟨f - 1, by omega⟩
                  obtain ⟨V, v1, v2, v3⟩ := mj_end (f := f) htp (show tp ≤ 401 by omega) (Nat.le_refl tp) hS hL h0
                  refine ⟨V, v1, ?_, v3⟩
                  have hb := Int32.toNatClampNeg_lt (g (98 + 2 * p + 1))
                  rw [← v2, f_X12_reckonAll_10, f_X12_reckonAll_10]
                  simp (disch := omega) only [leT, leF, ltT, ltF, eqT, eqF, kbT, ↓reduceIte]
              obtain ⟨W, w1, w2, w3⟩ := hrun
              refine ⟨W, w1, ?_, w3⟩
              rw [← w2, f_X12_reckonAll_10]
              rw [← ey]
              simp (maxSteps := 1000000) (disch := omega) only [k_let, Option.bind_some, ↓reduceIte, eq_self, true_or, or_true, n01_0, n01_1, kb_or, kb_0T, kb_0F, vn_0, vn_1, vn_k, nl_0, nl_1, nl_2, nl_3, nl_4, nl_5, nl_6, nl_7, nl_8, nl_9, nl_10, nl_11, nl_12, nl_13, nl_14, nl_15, nl_16, nl_20, nl_21, nl_22, nl_23, nl_24, nl_25, nl_26, nl_27, nl_28, nl_29, nl_30, nl_31, nl_32, nl_40, nl_41, nl_42, nl_43, nl_45, nl_47, nl_48, nl_50, nl_57, nl_59, nl_60, nl_61, nl_62, nl_63, nl_64, nl_91, nl_93, nl_94, nl_97, nl_98, nl_100, nl_110, nl_122, nl_130, nl_144, nl_160, nl_240, nl_241, nl_255, nl_256, nl_400, nl_800, nl_900, nl_999, nl_1000, nl_1001, nl_1024, nl_1103, nl_1928, nl_4321, nl_5560, nl_12345, nl_1000000, nl_1000003, nl_252645135, nl_858993459, nl_1431655765, nl_1000000000, nI_add, pk_mul, n_sub, n_neg, n_cl, leT, leF, ltT, ltF, eqT, eqF, kbT, s_II, s_In, s_IJ, s_IA, s_IL, s_IR, s_IC, s_JI, s_JJ, s_Jn, s_JA, s_JL, s_JR, s_JC, s_AI, s_AJ, s_AA, s_An, s_AL, s_AR, s_AC, s_LI, s_LJ, s_LA, s_LL, s_Ln, s_LR, s_LC, ll_0, ll_1, ll_2, ll_7, ll_8, ll_9, ll_10, ll_20, ll_23, ll_24, ll_26, ll_30, ll_32, ll_48, ll_96, ll_240, ll_256, ll_294, ll_498, ll_999, ll_1000, ll_1103, ll_1476, ll_12345, ll_14836, ll_65536, ll_1000000, ll_1000003, ll_1048576, ll_1000000000, L_leT, L_leF, L_ltT, L_ltF, L_eqT, L_eqF, h0, A1, gx, gy, hx, ht, f_X12_reckonAll_228, f_X12_reckonAll_242, List.length_cons, Nat.add_sub_cancel]
            · rw [if_neg cv] at hr
              obtain ⟨W, w1, w2, w3⟩ := go (Fr.refl U) hS.pop h0 (by omega) (show p + 1 ≤ 401 by omega) hr
              refine ⟨W, w1, ?_, w3⟩
              rw [← w2, f_X12_reckonAll_10]
              have em : nI (st.length + 1) + iZ (-((1 : Nat) : Int)) = nI st.length := pk_m1 _
              simp (maxSteps := 1000000) (disch := omega) only [k_let, Option.bind_some, ↓reduceIte, eq_self, true_or, or_true, n01_0, n01_1, kb_or, kb_0T, kb_0F, vn_0, vn_1, vn_k, nl_0, nl_1, nl_2, nl_3, nl_4, nl_5, nl_6, nl_7, nl_8, nl_9, nl_10, nl_11, nl_12, nl_13, nl_14, nl_15, nl_16, nl_20, nl_21, nl_22, nl_23, nl_24, nl_25, nl_26, nl_27, nl_28, nl_29, nl_30, nl_31, nl_32, nl_40, nl_41, nl_42, nl_43, nl_45, nl_47, nl_48, nl_50, nl_57, nl_59, nl_60, nl_61, nl_62, nl_63, nl_64, nl_91, nl_93, nl_94, nl_97, nl_98, nl_100, nl_110, nl_122, nl_130, nl_144, nl_160, nl_240, nl_241, nl_255, nl_256, nl_400, nl_800, nl_900, nl_999, nl_1000, nl_1001, nl_1024, nl_1103, nl_1928, nl_4321, nl_5560, nl_12345, nl_1000000, nl_1000003, nl_252645135, nl_858993459, nl_1431655765, nl_1000000000, nI_add, pk_mul, n_sub, n_neg, n_cl, leT, leF, ltT, ltF, eqT, eqF, kbT, s_II, s_In, s_IJ, s_IA, s_IL, s_IR, s_IC, s_JI, s_JJ, s_Jn, s_JA, s_JL, s_JR, s_JC, s_AI, s_AJ, s_AA, s_An, s_AL, s_AR, s_AC, s_LI, s_LJ, s_LA, s_LL, s_Ln, s_LR, s_LC, ll_0, ll_1, ll_2, ll_7, ll_8, ll_9, ll_10, ll_20, ll_23, ll_24, ll_26, ll_30, ll_32, ll_48, ll_96, ll_240, ll_256, ll_294, ll_498, ll_999, ll_1000, ll_1103, ll_1476, ll_12345, ll_14836, ll_65536, ll_1000000, ll_1000003, ll_1048576, ll_1000000000, L_leT, L_leF, L_ltT, L_ltF, L_eqT, L_eqF, h0, A1, gx, gy, hx, ht, f_X12_reckonAll_228, f_X12_reckonAll_242, List.length_cons, Nat.add_sub_cancel, em]
          · rw [if_neg cp] at hr; cases hr
      · rw [if_neg (by omega), if_neg (by omega)] at hr
        by_cases o9' : op = 9
        · subst o9'
          rw [if_pos rfl] at hr
          cases st with
          | nil => cases hr
          | cons v st =>
            replace hr : (if v = 0 ∨ v = 1 then _ else _) = some res := hr
            by_cases cv : v = 0 ∨ v = 1
            · rw [if_pos cv] at hr
              have hL' : st.length + 1 ≤ 400 := hL
              have ht := hS.top
              obtain ⟨W, w1, w2, w3⟩ := go (V := sL U 65 st.length (lZ (1 - v))) ((Fr.refl U).sL rfl _ _) (hS.pop.push ⟨by omega, by omega⟩) h0 hL (show p + 1 ≤ 401 by omega) hr
              refine ⟨W, w1, ?_, w3⟩
              rw [← w2, f_X12_reckonAll_10]
              simp (maxSteps := 1000000) (disch := omega) only [k_let, Option.bind_some, ↓reduceIte, eq_self, true_or, or_true, n01_0, n01_1, kb_or, kb_0T, kb_0F, vn_0, vn_1, vn_k, nl_0, nl_1, nl_2, nl_3, nl_4, nl_5, nl_6, nl_7, nl_8, nl_9, nl_10, nl_11, nl_12, nl_13, nl_14, nl_15, nl_16, nl_20, nl_21, nl_22, nl_23, nl_24, nl_25, nl_26, nl_27, nl_28, nl_29, nl_30, nl_31, nl_32, nl_40, nl_41, nl_42, nl_43, nl_45, nl_47, nl_48, nl_50, nl_57, nl_59, nl_60, nl_61, nl_62, nl_63, nl_64, nl_91, nl_93, nl_94, nl_97, nl_98, nl_100, nl_110, nl_122, nl_130, nl_144, nl_160, nl_240, nl_241, nl_255, nl_256, nl_400, nl_800, nl_900, nl_999, nl_1000, nl_1001, nl_1024, nl_1103, nl_1928, nl_4321, nl_5560, nl_12345, nl_1000000, nl_1000003, nl_252645135, nl_858993459, nl_1431655765, nl_1000000000, nI_add, pk_mul, n_sub, n_neg, n_cl, leT, leF, ltT, ltF, eqT, eqF, kbT, s_II, s_In, s_IJ, s_IA, s_IL, s_IR, s_IC, s_JI, s_JJ, s_Jn, s_JA, s_JL, s_JR, s_JC, s_AI, s_AJ, s_AA, s_An, s_AL, s_AR, s_AC, s_LI, s_LJ, s_LA, s_LL, s_Ln, s_LR, s_LC, ll_0, ll_1, ll_2, ll_7, ll_8, ll_9, ll_10, ll_20, ll_23, ll_24, ll_26, ll_30, ll_32, ll_48, ll_96, ll_240, ll_256, ll_294, ll_498, ll_999, ll_1000, ll_1103, ll_1476, ll_12345, ll_14836, ll_65536, ll_1000000, ll_1000003, ll_1048576, ll_1000000000, L_sub, h0, A1, gx, gy, hx, ht, f_X12_reckonAll_242, List.length_cons, Nat.add_sub_cancel]
            · rw [if_neg cv] at hr; cases hr
        · rw [if_neg o9', if_neg (by omega), if_neg (by omega), if_pos (by omega)] at hr
          cases st with
          | nil => cases hr
          | cons b st =>
            cases st with
            | nil => cases hr
            | cons v st =>
              have hL' : st.length + 2 ≤ 400 := hL
              replace hr : bd (opv op v b) (fun x => rn (Fm g) E 400 n (p + 1) tp (x :: st)) = some res := hr
              have hb := hS.2 b List.mem_cons_self
              have hv := hS.2 v (List.mem_cons_of_mem _ List.mem_cons_self)
              have ht : gL U 65 (st.length + 1) = lZ b := hS.top
              have ht2 := hS.pop.top
              have hbd := opr_bd (op := op) hv hb
              have em : nI (st.length + 1 + 1) + iZ (-((1 : Nat) : Int)) = nI (st.length + 1) := pk_m1 _
              obtain ⟨V, v1, v2⟩ := e_reckon (op := op) o2 (by omega) hv hb h0
              rcases v2 with ⟨q1, q2, q3, q4⟩ | ⟨q1, q3, q4⟩
              · have hno : opv op v b = none := by unfold opv; rw [if_pos ⟨q1, q2⟩]
                rw [hno] at hr
                replace hr : some none = some res := hr
                cases hr
                obtain ⟨f, rfl⟩ : ∃ g, f = g + 1 := ⟨f - 1, by omega⟩
                obtain ⟨W, w1, w2, w3⟩ := mj_broken (U := sI (sL V 65 st.length (lZ 0)) 48 (nI 1)) (k := st.length + 1) (tp := tp) (p := p + 1) (f := f) (by omega) htp (by omega) (s_II _ _ _)
                refine ⟨W, (((v1.mono rfl rfl rfl rfl : Fr [48] [1] [] [65] U V).sL (k := 65) rfl _ _).sI (k := 48) rfl _).trans w1, ?_, w3⟩
                rw [← w2, f_X12_reckonAll_10]
                simp (maxSteps := 1000000) (disch := omega) only [k_let, Option.bind_some, ↓reduceIte, eq_self, true_or, or_true, n01_0, n01_1, kb_or, kb_0T, kb_0F, vn_0, vn_1, vn_k, nl_0, nl_1, nl_2, nl_3, nl_4, nl_5, nl_6, nl_7, nl_8, nl_9, nl_10, nl_11, nl_12, nl_13, nl_14, nl_15, nl_16, nl_20, nl_21, nl_22, nl_23, nl_24, nl_25, nl_26, nl_27, nl_28, nl_29, nl_30, nl_31, nl_32, nl_40, nl_41, nl_42, nl_43, nl_45, nl_47, nl_48, nl_50, nl_57, nl_59, nl_60, nl_61, nl_62, nl_63, nl_64, nl_91, nl_93, nl_94, nl_97, nl_98, nl_100, nl_110, nl_122, nl_130, nl_144, nl_160, nl_240, nl_241, nl_255, nl_256, nl_400, nl_800, nl_900, nl_999, nl_1000, nl_1001, nl_1024, nl_1103, nl_1928, nl_4321, nl_5560, nl_12345, nl_1000000, nl_1000003, nl_252645135, nl_858993459, nl_1431655765, nl_1000000000, nI_add, pk_mul, n_sub, n_neg, n_cl, leT, leF, ltT, ltF, eqT, eqF, kbT, s_II, s_In, s_IJ, s_IA, s_IL, s_IR, s_IC, s_JI, s_JJ, s_Jn, s_JA, s_JL, s_JR, s_JC, s_AI, s_AJ, s_AA, s_An, s_AL, s_AR, s_AC, s_LI, s_LJ, s_LA, s_LL, s_Ln, s_LR, s_LC, ll_0, ll_1, ll_2, ll_7, ll_8, ll_9, ll_10, ll_20, ll_23, ll_24, ll_26, ll_30, ll_32, ll_48, ll_96, ll_240, ll_256, ll_294, ll_498, ll_999, ll_1000, ll_1103, ll_1476, ll_12345, ll_14836, ll_65536, ll_1000000, ll_1000003, ll_1048576, ll_1000000000, h0, A1, gx, gy, hx, ht, ht2, q3, q4, f_X12_reckonAll_169, f_X12_reckonAll_174, f_X12_reckonAll_242, List.length_cons, Nat.add_sub_cancel, em]
              · rcases bd_some hr with ⟨g1, g2⟩ | ⟨x, g1, g2⟩
                · have hout : 1000000000 < opr op v b ∨ opr op v b < -1000000000 := by
                    unfold opv at g1
                    rw [if_neg q1] at g1
                    apply Classical.byContradiction
                    intro z
                    rw [if_neg z] at g1
                    cases g1
                  subst g2
                  obtain ⟨f, rfl⟩ : ∃ g, f = g + 1 := ⟨f - 1, by omega⟩
                  obtain ⟨W, w1, w2, w3⟩ := mj_broken (U := sI (sL V 65 st.length (lZ (opr op v b))) 48 (nI 1)) (k := st.length + 1) (tp := tp) (p := p + 1) (f := f) (by omega) htp (by omega) (s_II _ _ _)
                  refine ⟨W, (((v1.mono rfl rfl rfl rfl : Fr [48] [1] [] [65] U V).sL (k := 65) rfl _ _).sI (k := 48) rfl _).trans w1, ?_, w3⟩
                  rw [← w2, f_X12_reckonAll_10]
                  simp (maxSteps := 1000000) (disch := omega) only [k_let, Option.bind_some, ↓reduceIte, eq_self, true_or, or_true, n01_0, n01_1, kb_or, kb_0T, kb_0F, vn_0, vn_1, vn_k, nl_0, nl_1, nl_2, nl_3, nl_4, nl_5, nl_6, nl_7, nl_8, nl_9, nl_10, nl_11, nl_12, nl_13, nl_14, nl_15, nl_16, nl_20, nl_21, nl_22, nl_23, nl_24, nl_25, nl_26, nl_27, nl_28, nl_29, nl_30, nl_31, nl_32, nl_40, nl_41, nl_42, nl_43, nl_45, nl_47, nl_48, nl_50, nl_57, nl_59, nl_60, nl_61, nl_62, nl_63, nl_64, nl_91, nl_93, nl_94, nl_97, nl_98, nl_100, nl_110, nl_122, nl_130, nl_144, nl_160, nl_240, nl_241, nl_255, nl_256, nl_400, nl_800, nl_900, nl_999, nl_1000, nl_1001, nl_1024, nl_1103, nl_1928, nl_4321, nl_5560, nl_12345, nl_1000000, nl_1000003, nl_252645135, nl_858993459, nl_1431655765, nl_1000000000, nI_add, pk_mul, n_sub, n_neg, n_cl, leT, leF, ltT, ltF, eqT, eqF, kbT, s_II, s_In, s_IJ, s_IA, s_IL, s_IR, s_IC, s_JI, s_JJ, s_Jn, s_JA, s_JL, s_JR, s_JC, s_AI, s_AJ, s_AA, s_An, s_AL, s_AR, s_AC, s_LI, s_LJ, s_LA, s_LL, s_Ln, s_LR, s_LC, ll_0, ll_1, ll_2, ll_7, ll_8, ll_9, ll_10, ll_20, ll_23, ll_24, ll_26, ll_30, ll_32, ll_48, ll_96, ll_240, ll_256, ll_294, ll_498, ll_999, ll_1000, ll_1103, ll_1476, ll_12345, ll_14836, ll_65536, ll_1000000, ll_1000003, ll_1048576, ll_1000000000, L_neg, h0, A1, gx, gy, hx, ht, ht2, q3, q4, e_inL, decide_eq_false (show ¬ (-1000000000 ≤ opr op v b ∧ opr op v b ≤ 1000000000) by omega), u_La, kB_f, f_X12_reckonAll_169, f_X12_reckonAll_174, f_X12_reckonAll_242, List.length_cons, Nat.add_sub_cancel, em]
                · have hin : x = opr op v b ∧ -1000000000 ≤ opr op v b ∧ opr op v b ≤ 1000000000 := by
                    have := opv_bd g1
                    unfold opv at g1
                    rw [if_neg q1] at g1
                    by_cases z : 1000000000 < opr op v b ∨ opr op v b < -1000000000
                    · rw [if_pos z] at g1; cases g1
                    · rw [if_neg z] at g1
                      cases g1
                      exact ⟨rfl, by omega, by omega⟩
                  obtain ⟨rfl, n1, n2⟩ := hin
                  have hS' : StkM V st := (hS.pop.pop).fr v1 rfl
                  obtain ⟨W, w1, w2, w3⟩ := go (V := sI (sL V 65 st.length (lZ (opr op v b))) 48 (nI 0)) (((v1.mono rfl rfl rfl rfl : Fr [48] [1] [] [65] U V).sL (k := 65) rfl _ _).sI (k := 48) rfl _) ((hS'.push ⟨n1, n2⟩).fr ((Fr.refl _).sI (k := 48) (ci := [48]) (cj := []) (ca := []) (cl := []) rfl _) rfl) (s_II _ _ _) (show st.length + 1 ≤ 400 by omega) (show p + 1 ≤ 401 by omega) g2
                  refine ⟨W, w1, ?_, w3⟩
                  rw [← w2, f_X12_reckonAll_10]
                  simp (maxSteps := 1000000) (disch := omega) only [k_let, Option.bind_some, ↓reduceIte, eq_self, true_or, or_true, n01_0, n01_1, kb_or, kb_0T, kb_0F, vn_0, vn_1, vn_k, nl_0, nl_1, nl_2, nl_3, nl_4, nl_5, nl_6, nl_7, nl_8, nl_9, nl_10, nl_11, nl_12, nl_13, nl_14, nl_15, nl_16, nl_20, nl_21, nl_22, nl_23, nl_24, nl_25, nl_26, nl_27, nl_28, nl_29, nl_30, nl_31, nl_32, nl_40, nl_41, nl_42, nl_43, nl_45, nl_47, nl_48, nl_50, nl_57, nl_59, nl_60, nl_61, nl_62, nl_63, nl_64, nl_91, nl_93, nl_94, nl_97, nl_98, nl_100, nl_110, nl_122, nl_130, nl_144, nl_160, nl_240, nl_241, nl_255, nl_256, nl_400, nl_800, nl_900, nl_999, nl_1000, nl_1001, nl_1024, nl_1103, nl_1928, nl_4321, nl_5560, nl_12345, nl_1000000, nl_1000003, nl_252645135, nl_858993459, nl_1431655765, nl_1000000000, nI_add, pk_mul, n_sub, n_neg, n_cl, leT, leF, ltT, ltF, eqT, eqF, kbT, s_II, s_In, s_IJ, s_IA, s_IL, s_IR, s_IC, s_JI, s_JJ, s_Jn, s_JA, s_JL, s_JR, s_JC, s_AI, s_AJ, s_AA, s_An, s_AL, s_AR, s_AC, s_LI, s_LJ, s_LA, s_LL, s_Ln, s_LR, s_LC, ll_0, ll_1, ll_2, ll_7, ll_8, ll_9, ll_10, ll_20, ll_23, ll_24, ll_26, ll_30, ll_32, ll_48, ll_96, ll_240, ll_256, ll_294, ll_498, ll_999, ll_1000, ll_1103, ll_1476, ll_12345, ll_14836, ll_65536, ll_1000000, ll_1000003, ll_1048576, ll_1000000000, L_neg, h0, A1, gx, gy, hx, ht, ht2, q3, q4, e_inL, decide_eq_true (show (-1000000000 ≤ opr op v b ∧ opr op v b ≤ 1000000000) by omega), u_La, kB_t, f_X12_reckonAll_169, f_X12_reckonAll_174, f_X12_reckonAll_242, List.length_cons, Nat.add_sub_cancel, em]
