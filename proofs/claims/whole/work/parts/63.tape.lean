/-! part 63: feed, end, row, count -/
/-- the tape has changed -/
def tpI : List Nat := [8, 36, 9, 10, 11, 12, 13, 14, 15, 16, 17, 18, 19, 20, 21, 22, 23, 24, 25, 26, 27, 29, 33, 37, 38, 39, 41, 42, 43, 44, 45, 46, 47, 48, 49, 50, 51, 52, 53]
def tpA : List Nat := [16, 56, 18, 19, 20, 21, 22, 24, 26, 27, 28, 30, 31, 38, 40, 42, 43, 45, 57, 58, 59, 60, 61, 66, 67, 68, 69, 70, 71, 72, 73, 74, 75, 76, 77, 78, 79]
theorem Inv.tape {S T : St} (h : Inv S) (f : Fr tpI scJ tpA scL S T) (ht : Tp T) : Inv T := by
  obtain ⟨h1, -, ⟨a1, a2, a3⟩, h4, ⟨p1, p2⟩, ⟨m0, m1⟩, c1, c2, c3, kv⟩ := h
  have k55 : ∀ {k : Nat}, 55 ≤ k → k ∉ tpI := fun {k} h q => by
    simp only [tpI, List.mem_cons, List.not_mem_nil, or_false] at q
    omega
  have k81 : ∀ {k : Nat}, 81 ≤ k → k ∉ tpA := fun {k} h q => by
    simp only [tpA, List.mem_cons, List.not_mem_nil, or_false] at q
    omega
  have k8 : ∀ {k : Nat}, k < 8 → k ∉ tpI := fun {k} h q => by
    simp only [tpI, List.mem_cons, List.not_mem_nil, or_false] at q
    omega
  have k15 : ∀ {k : Nat}, k < 15 → k ∉ tpA := fun {k} h q => by
    simp only [tpA, List.mem_cons, List.not_mem_nil, or_false] at q
    omega
  have im : ∀ k, Im S k → Im T k := fun k g => by
    rcases g with ⟨h1, h2⟩ | ⟨h1, h2, h3⟩
    · exact Or.inl ⟨by rw [f.2.2.2.2.1]; exact h1, by rw [f.A (k := 55) rfl]; exact h2⟩
    · refine Or.inr ⟨by rw [f.2.2.2.2.1]; exact h1, by rw [f.A (k := 55) rfl]; exact h2, ?_⟩
      rw [f.2.2.2.2.2, f.2.2.2.2.1, f.A (k := 54) rfl]
      exact h3.congr (fun i _ => f.1 _ (k55 (by omega))) (fun j _ => f.2.2.1 _ (k81 (by omega))) (fun _ => rfl)
  refine ⟨?_, ht, ⟨?_, ?_, ?_⟩, ?_, ⟨?_, ?_⟩, ⟨im 0 m0, im 1 m1⟩, ?_, ?_, ?_, kv.fr f⟩
  · rw [f.2.2.2.2.2, f.2.2.2.2.1, f.A (k := 53) rfl]
    exact h1.congr (fun i hi => f.1 _ (k8 hi)) (fun j hj => f.2.2.1 _ (k15 hj)) (fun _ => rfl)
  · rw [f.I (k := 30) rfl, f.I (k := 35) rfl]; exact a1
  · rw [f.I (k := 31) rfl, f.I (k := 40) rfl]; exact a2
  · rw [f.I (k := 32) rfl, f.I (k := 34) rfl]; exact a3
  · rw [f.A (k := 50) rfl, f.A (k := 52) rfl]; exact h4
  · rw [f.I (k := 28) rfl, f.I (k := 54) rfl]; exact p1
  · rw [f.I (k := 28) rfl, f.A (k := 46) rfl, f.A (k := 47) rfl, f.A (k := 80) rfl]; exact p2
  · rw [f.L (k := 62) rfl]; exact c1
  · rw [f.L (k := 63) rfl]; exact c2
  · rw [f.L (k := 37) rfl]; exact c3
theorem Tp.n {S : St} (h : Tp S) : ∃ t, t ≤ 400 ∧ gI S 8 = nI t ∧ gI S 36 = nI t ∧ ∀ i, i < t → gA S 16 i &&& nI 255 = gA S 56 i ∧ isN (gA S 56) i 256 := by
  obtain ⟨a, b, c⟩ := h
  exact ⟨rN (gI S) 8, by have := b.2; omega, b.1, by rw [← a]; exact b.1, c⟩
theorem Tp.of {S : St} {t : Nat} (ht : t ≤ 400) (h8 : gI S 8 = nI t) (h36 : gI S 36 = nI t) (h : ∀ i, i < t → gA S 16 i &&& nI 255 = gA S 56 i ∧ isN (gA S 56) i 256) : Tp S := by
  obtain ⟨a, b⟩ := isN_v (r := gI S) (i := 8) (m := 401) h8 (by omega) (by decide)
  exact ⟨by rw [h8, h36], a, by rw [b]; exact h⟩
theorem p_end (x : Int32) : Pr (f_X11_end x) (f_X12_end x) := by
  intro S h
  obtain ⟨t, ht, h8, h36, hb⟩ := h.2.1.n
  unfold f_X11_end f_X11_end_15 f_X12_end f_X12_end_17
  have l1 : (x < nI 0) = (x.toInt < (0 : Nat)) := lt_xn x 0 (by decide)
  have l2 : (x ≤ nI t) = (x.toInt ≤ t) := le_xn x t (by omega)
  by_cases c : 0 ≤ x.toInt ∧ x.toInt ≤ t
  · obtain ⟨k, rfl, hk, -⟩ := rng_n (x := x) (n := t + 1) (by omega)
    refine ⟨nI k, sI S 8 (nI k), sI (sI (sI S 8 (nI k)) 33 (nI 0)) 36 (nI k), ?_, ?_, h.tape ((((Fr.refl S).sI (k := 8) rfl _).sI (k := 33) rfl _).sI (k := 36) rfl _) (Tp.of (t := k) (by omega) rfl rfl (fun i hi => hb i (by omega)))⟩
    · simp (disch := omega) only [k_let, Option.bind_some, ↓reduceIte, eq_self, true_or, or_true, n01_0, n01_1, kb_or, kb_0T, kb_0F, vn_0, vn_1, vn_k, nl_0, nl_1, nl_2, nl_3, nl_4, nl_5, nl_6, nl_7, nl_8, nl_9, nl_10, nl_11, nl_12, nl_13, nl_14, nl_15, nl_16, nl_20, nl_21, nl_22, nl_23, nl_24, nl_25, nl_26, nl_27, nl_28, nl_29, nl_30, nl_31, nl_32, nl_40, nl_41, nl_42, nl_43, nl_45, nl_47, nl_48, nl_50, nl_57, nl_59, nl_60, nl_61, nl_62, nl_63, nl_64, nl_91, nl_93, nl_94, nl_97, nl_98, nl_100, nl_110, nl_122, nl_130, nl_144, nl_160, nl_240, nl_241, nl_255, nl_256, nl_400, nl_800, nl_900, nl_999, nl_1000, nl_1001, nl_1024, nl_1103, nl_1928, nl_4321, nl_5560, nl_12345, nl_1000000, nl_1000003, nl_252645135, nl_858993459, nl_1431655765, nl_1000000000, nI_add, pk_mul, n_sub, n_neg, n_cl, leT, leF, ltT, ltF, eqT, eqF, kbT, s_II, s_In, s_IJ, s_IA, s_IL, s_IR, s_IC, s_JI, s_JJ, s_Jn, s_JA, s_JL, s_JR, s_JC, s_AI, s_AJ, s_AA, s_An, s_AL, s_AR, s_AC, s_LI, s_LJ, s_LA, s_LL, s_Ln, s_LR, s_LC, zleT, zleF, zltT, zltF, zeqT, zeqF, nzleT, nzleF, nzltT, nzltF, nzeqT, nzeqF, znleT, znleF, znltT, znltF, zneqT, zneqF, z_add, z_sub, z_mul, z_neg, z_an, z_na, z_sn, z_ns, z_mn, z_nm, Nat.add_sub_cancel, decide_true, decide_false, and_self, e_done, e_ref1, e_ref2, e_ref3, e_ref5, e_ref6, e_tel1, e_tel2, e_tel3, e_tel5, e_tel6, e_telN, rfT_m, h8]
    · simp (disch := omega) only [k_let, Option.bind_some, ↓reduceIte, eq_self, true_or, or_true, n01_0, n01_1, kb_or, kb_0T, kb_0F, vn_0, vn_1, vn_k, nl_0, nl_1, nl_2, nl_3, nl_4, nl_5, nl_6, nl_7, nl_8, nl_9, nl_10, nl_11, nl_12, nl_13, nl_14, nl_15, nl_16, nl_20, nl_21, nl_22, nl_23, nl_24, nl_25, nl_26, nl_27, nl_28, nl_29, nl_30, nl_31, nl_32, nl_40, nl_41, nl_42, nl_43, nl_45, nl_47, nl_48, nl_50, nl_57, nl_59, nl_60, nl_61, nl_62, nl_63, nl_64, nl_91, nl_93, nl_94, nl_97, nl_98, nl_100, nl_110, nl_122, nl_130, nl_144, nl_160, nl_240, nl_241, nl_255, nl_256, nl_400, nl_800, nl_900, nl_999, nl_1000, nl_1001, nl_1024, nl_1103, nl_1928, nl_4321, nl_5560, nl_12345, nl_1000000, nl_1000003, nl_252645135, nl_858993459, nl_1431655765, nl_1000000000, nI_add, pk_mul, n_sub, n_neg, n_cl, leT, leF, ltT, ltF, eqT, eqF, kbT, s_II, s_In, s_IJ, s_IA, s_IL, s_IR, s_IC, s_JI, s_JJ, s_Jn, s_JA, s_JL, s_JR, s_JC, s_AI, s_AJ, s_AA, s_An, s_AL, s_AR, s_AC, s_LI, s_LJ, s_LA, s_LL, s_Ln, s_LR, s_LC, zleT, zleF, zltT, zltF, zeqT, zeqF, nzleT, nzleF, nzltT, nzltF, nzeqT, nzeqF, znleT, znleF, znltT, znltF, zneqT, zneqF, z_add, z_sub, z_mul, z_neg, z_an, z_na, z_sn, z_ns, z_mn, z_nm, Nat.add_sub_cancel, decide_true, decide_false, and_self, e_done, e_ref1, e_ref2, e_ref3, e_ref5, e_ref6, e_tel1, e_tel2, e_tel3, e_tel5, e_tel6, e_telN, rfT_m, h36]
  · refine ⟨iZ (-((1 : Nat) : Int)), S, sI S 33 (nI 0), ?_, ?_, (Iv.of h |>.sI (k := 33) rfl _).1⟩
    · by_cases c3 : x.toInt < (0 : Nat)
      · simp (disch := omega) only [k_let, Option.bind_some, ↓reduceIte, eq_self, true_or, or_true, n01_0, n01_1, kb_or, kb_0T, kb_0F, vn_0, vn_1, vn_k, nl_0, nl_1, nl_2, nl_3, nl_4, nl_5, nl_6, nl_7, nl_8, nl_9, nl_10, nl_11, nl_12, nl_13, nl_14, nl_15, nl_16, nl_20, nl_21, nl_22, nl_23, nl_24, nl_25, nl_26, nl_27, nl_28, nl_29, nl_30, nl_31, nl_32, nl_40, nl_41, nl_42, nl_43, nl_45, nl_47, nl_48, nl_50, nl_57, nl_59, nl_60, nl_61, nl_62, nl_63, nl_64, nl_91, nl_93, nl_94, nl_97, nl_98, nl_100, nl_110, nl_122, nl_130, nl_144, nl_160, nl_240, nl_241, nl_255, nl_256, nl_400, nl_800, nl_900, nl_999, nl_1000, nl_1001, nl_1024, nl_1103, nl_1928, nl_4321, nl_5560, nl_12345, nl_1000000, nl_1000003, nl_252645135, nl_858993459, nl_1431655765, nl_1000000000, nI_add, pk_mul, n_sub, n_neg, n_cl, leT, leF, ltT, ltF, eqT, eqF, kbT, s_II, s_In, s_IJ, s_IA, s_IL, s_IR, s_IC, s_JI, s_JJ, s_Jn, s_JA, s_JL, s_JR, s_JC, s_AI, s_AJ, s_AA, s_An, s_AL, s_AR, s_AC, s_LI, s_LJ, s_LA, s_LL, s_Ln, s_LR, s_LC, zleT, zleF, zltT, zltF, zeqT, zeqF, nzleT, nzleF, nzltT, nzltF, nzeqT, nzeqF, znleT, znleF, znltT, znltF, zneqT, zneqF, z_add, z_sub, z_mul, z_neg, z_an, z_na, z_sn, z_ns, z_mn, z_nm, Nat.add_sub_cancel, decide_true, decide_false, and_self, e_done, e_ref1, e_ref2, e_ref3, e_ref5, e_ref6, e_tel1, e_tel2, e_tel3, e_tel5, e_tel6, e_telN, rfT_m, l1, c3]
      · simp (disch := omega) only [k_let, Option.bind_some, ↓reduceIte, eq_self, true_or, or_true, n01_0, n01_1, kb_or, kb_0T, kb_0F, vn_0, vn_1, vn_k, nl_0, nl_1, nl_2, nl_3, nl_4, nl_5, nl_6, nl_7, nl_8, nl_9, nl_10, nl_11, nl_12, nl_13, nl_14, nl_15, nl_16, nl_20, nl_21, nl_22, nl_23, nl_24, nl_25, nl_26, nl_27, nl_28, nl_29, nl_30, nl_31, nl_32, nl_40, nl_41, nl_42, nl_43, nl_45, nl_47, nl_48, nl_50, nl_57, nl_59, nl_60, nl_61, nl_62, nl_63, nl_64, nl_91, nl_93, nl_94, nl_97, nl_98, nl_100, nl_110, nl_122, nl_130, nl_144, nl_160, nl_240, nl_241, nl_255, nl_256, nl_400, nl_800, nl_900, nl_999, nl_1000, nl_1001, nl_1024, nl_1103, nl_1928, nl_4321, nl_5560, nl_12345, nl_1000000, nl_1000003, nl_252645135, nl_858993459, nl_1431655765, nl_1000000000, nI_add, pk_mul, n_sub, n_neg, n_cl, leT, leF, ltT, ltF, eqT, eqF, kbT, s_II, s_In, s_IJ, s_IA, s_IL, s_IR, s_IC, s_JI, s_JJ, s_Jn, s_JA, s_JL, s_JR, s_JC, s_AI, s_AJ, s_AA, s_An, s_AL, s_AR, s_AC, s_LI, s_LJ, s_LA, s_LL, s_Ln, s_LR, s_LC, zleT, zleF, zltT, zltF, zeqT, zeqF, nzleT, nzleF, nzltT, nzltF, nzeqT, nzeqF, znleT, znleF, znltT, znltF, zneqT, zneqF, z_add, z_sub, z_mul, z_neg, z_an, z_na, z_sn, z_ns, z_mn, z_nm, Nat.add_sub_cancel, decide_true, decide_false, and_self, e_done, e_ref1, e_ref2, e_ref3, e_ref5, e_ref6, e_tel1, e_tel2, e_tel3, e_tel5, e_tel6, e_telN, rfT_m, l1, l2, h8, c3, show ¬ x.toInt ≤ t by omega]
    · by_cases c3 : x.toInt < (0 : Nat)
      · simp (disch := omega) only [k_let, Option.bind_some, ↓reduceIte, eq_self, true_or, or_true, n01_0, n01_1, kb_or, kb_0T, kb_0F, vn_0, vn_1, vn_k, nl_0, nl_1, nl_2, nl_3, nl_4, nl_5, nl_6, nl_7, nl_8, nl_9, nl_10, nl_11, nl_12, nl_13, nl_14, nl_15, nl_16, nl_20, nl_21, nl_22, nl_23, nl_24, nl_25, nl_26, nl_27, nl_28, nl_29, nl_30, nl_31, nl_32, nl_40, nl_41, nl_42, nl_43, nl_45, nl_47, nl_48, nl_50, nl_57, nl_59, nl_60, nl_61, nl_62, nl_63, nl_64, nl_91, nl_93, nl_94, nl_97, nl_98, nl_100, nl_110, nl_122, nl_130, nl_144, nl_160, nl_240, nl_241, nl_255, nl_256, nl_400, nl_800, nl_900, nl_999, nl_1000, nl_1001, nl_1024, nl_1103, nl_1928, nl_4321, nl_5560, nl_12345, nl_1000000, nl_1000003, nl_252645135, nl_858993459, nl_1431655765, nl_1000000000, nI_add, pk_mul, n_sub, n_neg, n_cl, leT, leF, ltT, ltF, eqT, eqF, kbT, s_II, s_In, s_IJ, s_IA, s_IL, s_IR, s_IC, s_JI, s_JJ, s_Jn, s_JA, s_JL, s_JR, s_JC, s_AI, s_AJ, s_AA, s_An, s_AL, s_AR, s_AC, s_LI, s_LJ, s_LA, s_LL, s_Ln, s_LR, s_LC, zleT, zleF, zltT, zltF, zeqT, zeqF, nzleT, nzleF, nzltT, nzltF, nzeqT, nzeqF, znleT, znleF, znltT, znltF, zneqT, zneqF, z_add, z_sub, z_mul, z_neg, z_an, z_na, z_sn, z_ns, z_mn, z_nm, Nat.add_sub_cancel, decide_true, decide_false, and_self, e_done, e_ref1, e_ref2, e_ref3, e_ref5, e_ref6, e_tel1, e_tel2, e_tel3, e_tel5, e_tel6, e_telN, rfT_m, l1, c3]
      · simp (disch := omega) only [k_let, Option.bind_some, ↓reduceIte, eq_self, true_or, or_true, n01_0, n01_1, kb_or, kb_0T, kb_0F, vn_0, vn_1, vn_k, nl_0, nl_1, nl_2, nl_3, nl_4, nl_5, nl_6, nl_7, nl_8, nl_9, nl_10, nl_11, nl_12, nl_13, nl_14, nl_15, nl_16, nl_20, nl_21, nl_22, nl_23, nl_24, nl_25, nl_26, nl_27, nl_28, nl_29, nl_30, nl_31, nl_32, nl_40, nl_41, nl_42, nl_43, nl_45, nl_47, nl_48, nl_50, nl_57, nl_59, nl_60, nl_61, nl_62, nl_63, nl_64, nl_91, nl_93, nl_94, nl_97, nl_98, nl_100, nl_110, nl_122, nl_130, nl_144, nl_160, nl_240, nl_241, nl_255, nl_256, nl_400, nl_800, nl_900, nl_999, nl_1000, nl_1001, nl_1024, nl_1103, nl_1928, nl_4321, nl_5560, nl_12345, nl_1000000, nl_1000003, nl_252645135, nl_858993459, nl_1431655765, nl_1000000000, nI_add, pk_mul, n_sub, n_neg, n_cl, leT, leF, ltT, ltF, eqT, eqF, kbT, s_II, s_In, s_IJ, s_IA, s_IL, s_IR, s_IC, s_JI, s_JJ, s_Jn, s_JA, s_JL, s_JR, s_JC, s_AI, s_AJ, s_AA, s_An, s_AL, s_AR, s_AC, s_LI, s_LJ, s_LA, s_LL, s_Ln, s_LR, s_LC, zleT, zleF, zltT, zltF, zeqT, zeqF, nzleT, nzleF, nzltT, nzltF, nzeqT, nzeqF, znleT, znleF, znltT, znltF, zneqT, zneqF, z_add, z_sub, z_mul, z_neg, z_an, z_na, z_sn, z_ns, z_mn, z_nm, Nat.add_sub_cancel, decide_true, decide_false, and_self, e_done, e_ref1, e_ref2, e_ref3, e_ref5, e_ref6, e_tel1, e_tel2, e_tel3, e_tel5, e_tel6, e_telN, rfT_m, l1, l2, h36, c3, show ¬ x.toInt ≤ t by omega]
/-! feed -/
theorem n_255k : ∀ j, j < 32 → ¬ j < 8 → (255#32).getLsbD j = false := by decide
theorem n_nx (x : Int32) (k : Nat) (hk : k < 32) : ((x >>> (nI k &&& nI 31)).toInt8.toInt32 &&& nI 255) = (x >>> (nI k &&& nI 31)) &&& nI 255 := by
  generalize x >>> (nI k &&& nI 31) = y
  apply Int32.toBitVec_inj.mp
  simp only [Int32.toBitVec_and, Int8.toBitVec_toInt32, Int32.toBitVec_toInt8]
  show (y.toBitVec.signExtend 8).signExtend 32 &&& (255#32) = y.toBitVec &&& (255#32)
  ext i hi
  simp only [BitVec.getElem_and]
  by_cases c : i < 8
  · simp [c, BitVec.getElem_signExtend, hi]
  · have : (255#32)[i] = false := by
      rw [← BitVec.getLsbD_eq_getElem]
      exact n_255k i hi c
    simp [this]
theorem n_255 (x : Int32) : ∃ v, v < 256 ∧ x &&& nI 255 = nI v := by
  obtain ⟨j, h1, h2⟩ := pk_andE x (m := nI 255) 8 (by decide)
  exact ⟨j, h1, h2⟩
theorem vb_n (x : Int32) : vp_nar .byte (x.toInt8.toInt32) = x.toInt8.toInt32 := pk_vb x
/-- the class's four bytes -/
theorem l_write {S0 : St} (x : Int32) {t : Nat} : ∀ (m f : Nat) (U : St), m ≤ 4 → m < f → t + 4 ≤ 400 → gI U 8 = nI (t + (4 - m)) → Fr [8] [] [16] [] S0 U → (∀ i, gA U 16 i = if t ≤ i ∧ i < t + (4 - m) then (x >>> (nI (24 - 8 * (i - t)) &&& nI 31)).toInt8.toInt32 else gA S0 16 i) →
    ∃ V, f_X9_write_3 f x (iZ (8 * (m : Int) - 8)) U = some V ∧ gI V 8 = nI (t + 4) ∧ Fr [8] [] [16] [] S0 V ∧ ∀ i, gA V 16 i = if t ≤ i ∧ i < t + 4 then (x >>> (nI (24 - 8 * (i - t)) &&& nI 31)).toInt8.toInt32 else gA S0 16 i := by
  intro m
  induction m with
  | zero =>
    intro f U h4 hf ht h8 hF hp
    obtain ⟨f, rfl⟩ : ∃ g, f = g + 1 := ⟨f - 1, by omega⟩
    refine ⟨U, ?_, h8, hF, hp⟩
    rw [f_X9_write_3, f_X9_write_46]
    simp (disch := omega) only [k_let, Option.bind_some, ↓reduceIte, eq_self, true_or, or_true, n01_0, n01_1, kb_or, kb_0T, kb_0F, vn_0, vn_1, vn_k, nl_0, nl_1, nl_2, nl_3, nl_4, nl_5, nl_6, nl_7, nl_8, nl_9, nl_10, nl_11, nl_12, nl_13, nl_14, nl_15, nl_16, nl_20, nl_21, nl_22, nl_23, nl_24, nl_25, nl_26, nl_27, nl_28, nl_29, nl_30, nl_31, nl_32, nl_40, nl_41, nl_42, nl_43, nl_45, nl_47, nl_48, nl_50, nl_57, nl_59, nl_60, nl_61, nl_62, nl_63, nl_64, nl_91, nl_93, nl_94, nl_97, nl_98, nl_100, nl_110, nl_122, nl_130, nl_144, nl_160, nl_240, nl_241, nl_255, nl_256, nl_400, nl_800, nl_900, nl_999, nl_1000, nl_1001, nl_1024, nl_1103, nl_1928, nl_4321, nl_5560, nl_12345, nl_1000000, nl_1000003, nl_252645135, nl_858993459, nl_1431655765, nl_1000000000, nI_add, pk_mul, n_sub, n_neg, n_cl, leT, leF, ltT, ltF, eqT, eqF, kbT, s_II, s_In, s_IJ, s_IA, s_IL, s_IR, s_IC, s_JI, s_JJ, s_Jn, s_JA, s_JL, s_JR, s_JC, s_AI, s_AJ, s_AA, s_An, s_AL, s_AR, s_AC, s_LI, s_LJ, s_LA, s_LL, s_Ln, s_LR, s_LC, zleT, zleF, zltT, zltF, zeqT, zeqF, nzleT, nzleF, nzltT, nzltF, nzeqT, nzeqF, znleT, znleF, znltT, znltF, zneqT, zneqF, z_add, z_sub, z_mul, z_neg, z_an, z_na, z_sn, z_ns, z_mn, z_nm]
  | succ m ih =>
    intro f U h4 hf ht h8 hF hp
    obtain ⟨f, rfl⟩ : ∃ g, f = g + 1 := ⟨f - 1, by omega⟩
    have ez : iZ (8 * ((m + 1 : Nat) : Int) - 8) = nI (8 * m) := by rw [n_Z]; congr 1; omega
    have ez2 : nI (8 * m) + iZ (-((8 : Nat) : Int)) = iZ (8 * (m : Int) - 8) := by rw [n_Z, z_add]; first | rfl | (congr 1; done) | (congr 1; omega)
    have e1 : f_X9_write_3 (f + 1) x (iZ (8 * ((m + 1 : Nat) : Int) - 8)) U = f_X9_write_3 f x (iZ (8 * (m : Int) - 8)) (sI (sA U 16 (t + (4 - (m + 1))) ((x >>> (nI (8 * m) &&& nI 31)).toInt8.toInt32)) 8 (nI (t + (4 - (m + 1)) + 1))) := by
      rw [ez, f_X9_write_3]
      simp (disch := omega) only [k_let, Option.bind_some, ↓reduceIte, eq_self, true_or, or_true, n01_0, n01_1, kb_or, kb_0T, kb_0F, vn_0, vn_1, vn_k, nl_0, nl_1, nl_2, nl_3, nl_4, nl_5, nl_6, nl_7, nl_8, nl_9, nl_10, nl_11, nl_12, nl_13, nl_14, nl_15, nl_16, nl_20, nl_21, nl_22, nl_23, nl_24, nl_25, nl_26, nl_27, nl_28, nl_29, nl_30, nl_31, nl_32, nl_40, nl_41, nl_42, nl_43, nl_45, nl_47, nl_48, nl_50, nl_57, nl_59, nl_60, nl_61, nl_62, nl_63, nl_64, nl_91, nl_93, nl_94, nl_97, nl_98, nl_100, nl_110, nl_122, nl_130, nl_144, nl_160, nl_240, nl_241, nl_255, nl_256, nl_400, nl_800, nl_900, nl_999, nl_1000, nl_1001, nl_1024, nl_1103, nl_1928, nl_4321, nl_5560, nl_12345, nl_1000000, nl_1000003, nl_252645135, nl_858993459, nl_1431655765, nl_1000000000, nI_add, pk_mul, n_sub, n_neg, n_cl, leT, leF, ltT, ltF, eqT, eqF, kbT, s_II, s_In, s_IJ, s_IA, s_IL, s_IR, s_IC, s_JI, s_JJ, s_Jn, s_JA, s_JL, s_JR, s_JC, s_AI, s_AJ, s_AA, s_An, s_AL, s_AR, s_AC, s_LI, s_LJ, s_LA, s_LL, s_Ln, s_LR, s_LC, h8, vb_n, ez2]
    rw [e1]
    refine ih f _ (by omega) (by omega) ht ?_ ((hF.sA rfl _ _).sI rfl _) (fun i => ?_)
    · rw [s_II]; congr 1; omega
    · rw [s_IA, s_AA, u_a]
      by_cases q : i = t + (4 - (m + 1))
      · rw [if_pos q, if_pos (by omega), show 24 - 8 * (i - t) = 8 * m by omega]
      · rw [if_neg q, hp]
        by_cases z : t ≤ i ∧ i < t + (4 - (m + 1))
        · rw [if_pos z, if_pos (by omega)]
        · rw [if_neg z, if_neg (by omega)]
theorem l_four {S0 : St} (x : Int32) {t : Nat} : ∀ (m f : Nat) (U : St), m ≤ 4 → m < f → t + 4 ≤ 400 → gI U 36 = nI (t + (4 - m)) → Fr [36] [] [56] [] S0 U → (∀ i, gA U 56 i = if t ≤ i ∧ i < t + (4 - m) then (x >>> (nI (24 - 8 * (i - t)) &&& nI 31)) &&& nI 255 else gA S0 56 i) →
    ∃ V, f_X12_four_3 f x (iZ (8 * (m : Int) - 8)) U = some V ∧ gI V 36 = nI (t + 4) ∧ Fr [36] [] [56] [] S0 V ∧ ∀ i, gA V 56 i = if t ≤ i ∧ i < t + 4 then (x >>> (nI (24 - 8 * (i - t)) &&& nI 31)) &&& nI 255 else gA S0 56 i := by
  intro m
  induction m with
  | zero =>
    intro f U h4 hf ht h8 hF hp
    obtain ⟨f, rfl⟩ : ∃ g, f = g + 1 := ⟨f - 1, by omega⟩
    refine ⟨U, ?_, h8, hF, hp⟩
    rw [f_X12_four_3]
    simp (disch := omega) only [k_let, Option.bind_some, ↓reduceIte, eq_self, true_or, or_true, n01_0, n01_1, kb_or, kb_0T, kb_0F, vn_0, vn_1, vn_k, nl_0, nl_1, nl_2, nl_3, nl_4, nl_5, nl_6, nl_7, nl_8, nl_9, nl_10, nl_11, nl_12, nl_13, nl_14, nl_15, nl_16, nl_20, nl_21, nl_22, nl_23, nl_24, nl_25, nl_26, nl_27, nl_28, nl_29, nl_30, nl_31, nl_32, nl_40, nl_41, nl_42, nl_43, nl_45, nl_47, nl_48, nl_50, nl_57, nl_59, nl_60, nl_61, nl_62, nl_63, nl_64, nl_91, nl_93, nl_94, nl_97, nl_98, nl_100, nl_110, nl_122, nl_130, nl_144, nl_160, nl_240, nl_241, nl_255, nl_256, nl_400, nl_800, nl_900, nl_999, nl_1000, nl_1001, nl_1024, nl_1103, nl_1928, nl_4321, nl_5560, nl_12345, nl_1000000, nl_1000003, nl_252645135, nl_858993459, nl_1431655765, nl_1000000000, nI_add, pk_mul, n_sub, n_neg, n_cl, leT, leF, ltT, ltF, eqT, eqF, kbT, s_II, s_In, s_IJ, s_IA, s_IL, s_IR, s_IC, s_JI, s_JJ, s_Jn, s_JA, s_JL, s_JR, s_JC, s_AI, s_AJ, s_AA, s_An, s_AL, s_AR, s_AC, s_LI, s_LJ, s_LA, s_LL, s_Ln, s_LR, s_LC, zleT, zleF, zltT, zltF, zeqT, zeqF, nzleT, nzleF, nzltT, nzltF, nzeqT, nzeqF, znleT, znleF, znltT, znltF, zneqT, zneqF, z_add, z_sub, z_mul, z_neg, z_an, z_na, z_sn, z_ns, z_mn, z_nm]
  | succ m ih =>
    intro f U h4 hf ht h8 hF hp
    obtain ⟨f, rfl⟩ : ∃ g, f = g + 1 := ⟨f - 1, by omega⟩
    have ez : iZ (8 * ((m + 1 : Nat) : Int) - 8) = nI (8 * m) := by rw [n_Z]; congr 1; omega
    have ez2 : nI (8 * m) + iZ (-((8 : Nat) : Int)) = iZ (8 * (m : Int) - 8) := by rw [n_Z, z_add]; first | rfl | (congr 1; done) | (congr 1; omega)
    have e1 : f_X12_four_3 (f + 1) x (iZ (8 * ((m + 1 : Nat) : Int) - 8)) U = f_X12_four_3 f x (iZ (8 * (m : Int) - 8)) (sI (sA U 56 (t + (4 - (m + 1))) ((x >>> (nI (8 * m) &&& nI 31)) &&& nI 255)) 36 (nI (t + (4 - (m + 1)) + 1))) := by
      rw [ez, f_X12_four_3]
      simp (disch := omega) only [k_let, Option.bind_some, ↓reduceIte, eq_self, true_or, or_true, n01_0, n01_1, kb_or, kb_0T, kb_0F, vn_0, vn_1, vn_k, nl_0, nl_1, nl_2, nl_3, nl_4, nl_5, nl_6, nl_7, nl_8, nl_9, nl_10, nl_11, nl_12, nl_13, nl_14, nl_15, nl_16, nl_20, nl_21, nl_22, nl_23, nl_24, nl_25, nl_26, nl_27, nl_28, nl_29, nl_30, nl_31, nl_32, nl_40, nl_41, nl_42, nl_43, nl_45, nl_47, nl_48, nl_50, nl_57, nl_59, nl_60, nl_61, nl_62, nl_63, nl_64, nl_91, nl_93, nl_94, nl_97, nl_98, nl_100, nl_110, nl_122, nl_130, nl_144, nl_160, nl_240, nl_241, nl_255, nl_256, nl_400, nl_800, nl_900, nl_999, nl_1000, nl_1001, nl_1024, nl_1103, nl_1928, nl_4321, nl_5560, nl_12345, nl_1000000, nl_1000003, nl_252645135, nl_858993459, nl_1431655765, nl_1000000000, nI_add, pk_mul, n_sub, n_neg, n_cl, leT, leF, ltT, ltF, eqT, eqF, kbT, s_II, s_In, s_IJ, s_IA, s_IL, s_IR, s_IC, s_JI, s_JJ, s_Jn, s_JA, s_JL, s_JR, s_JC, s_AI, s_AJ, s_AA, s_An, s_AL, s_AR, s_AC, s_LI, s_LJ, s_LA, s_LL, s_Ln, s_LR, s_LC, h8, ez2]
    rw [e1]
    refine ih f _ (by omega) (by omega) ht ?_ ((hF.sA rfl _ _).sI rfl _) (fun i => ?_)
    · rw [s_II]; congr 1; omega
    · rw [s_IA, s_AA, u_a]
      by_cases q : i = t + (4 - (m + 1))
      · rw [if_pos q, if_pos (by omega), show 24 - 8 * (i - t) = 8 * m by omega]
      · rw [if_neg q, hp]
        by_cases z : t ≤ i ∧ i < t + (4 - (m + 1))
        · rw [if_pos z, if_pos (by omega)]
        · rw [if_neg z, if_neg (by omega)]
theorem e_write {S : St} (x : Int32) {t : Nat} (ht : t + 4 ≤ 400) (h8 : gI S 8 = nI t) : ∃ V, f_X9_write x S = some V ∧ gI V 8 = nI (t + 4) ∧ Fr [8] [] [16] [] S V ∧ ∀ i, gA V 16 i = if t ≤ i ∧ i < t + 4 then (x >>> (nI (24 - 8 * (i - t)) &&& nI 31)).toInt8.toInt32 else gA S 16 i := by
  obtain ⟨V, a⟩ := l_write (S0 := S) x (t := t) 4 FU S (by omega) (FU_ge (by omega)) ht h8 (Fr.refl _) (fun i => by rw [if_neg (by omega)])
  refine ⟨V, ?_, a.2⟩
  unfold f_X9_write
  rw [← a.1, show (24 : Int32) = iZ (8 * ((4 : Nat) : Int) - 8) from rfl]
theorem e_four {S : St} (x : Int32) {t : Nat} (ht : t + 4 ≤ 400) (h8 : gI S 36 = nI t) : ∃ V, f_X12_four x S = some V ∧ gI V 36 = nI (t + 4) ∧ Fr [36] [] [56] [] S V ∧ ∀ i, gA V 56 i = if t ≤ i ∧ i < t + 4 then (x >>> (nI (24 - 8 * (i - t)) &&& nI 31)) &&& nI 255 else gA S 56 i := by
  obtain ⟨V, a⟩ := l_four (S0 := S) x (t := t) 4 FU S (by omega) (FU_ge (by omega)) ht h8 (Fr.refl _) (fun i => by rw [if_neg (by omega)])
  refine ⟨V, ?_, a.2⟩
  unfold f_X12_four
  rw [← a.1, show (24 : Int32) = iZ (8 * ((4 : Nat) : Int) - 8) from rfl]
/-- the tapes agree, t bytes of them -/
def Ts (t : Nat) (f g : Nat → Int32) : Prop := ∀ i, i < t → f i &&& nI 255 = g i ∧ isN g i 256
theorem Ts.four {t : Nat} {f g f' g' : Nat → Int32} (h : Ts t f g) (x : Int32) (hf : ∀ i, f' i = if t ≤ i ∧ i < t + 4 then (x >>> (nI (24 - 8 * (i - t)) &&& nI 31)).toInt8.toInt32 else f i) (hg : ∀ i, g' i = if t ≤ i ∧ i < t + 4 then (x >>> (nI (24 - 8 * (i - t)) &&& nI 31)) &&& nI 255 else g i) : Ts (t + 4) f' g' := by
  intro i hi
  by_cases c : i < t
  · have a := hf i
    have b := hg i
    rw [if_neg (by omega)] at a b
    rw [a, isN_e b, b]
    exact h i c
  · have a := hf i
    have b := hg i
    rw [if_pos (by omega)] at a b
    obtain ⟨v, h1, h2⟩ := n_255 (x >>> (nI (24 - 8 * (i - t)) &&& nI 31))
    rw [a, b, n_nx x _ (by omega)]
    exact ⟨rfl, (isN_v (b.trans h2) h1 (by decide)).1⟩
theorem p_feed (a b c d e : Int32) : Pr (f_X11_feed a b c d e) (f_X12_feed a b c d e) := by
  intro S h
  obtain ⟨t, ht, h8, h36, hb⟩ := h.2.1.n
  unfold f_X11_feed f_X9_hasRoomFor f_X9_hasRoomFor_17 f_X12_feed
  by_cases q : t + 20 ≤ 400
  · obtain ⟨A, a1, a2, a3, a4⟩ := e_write a (by omega) h8
    obtain ⟨B, b1, b2, b3, b4⟩ := e_write b (by omega) a2
    obtain ⟨C, c1, c2, c3, c4⟩ := e_write c (by omega) b2
    obtain ⟨D, d1, d2, d3, d4⟩ := e_write d (by omega) c2
    obtain ⟨E, e1, e2, e3, e4⟩ := e_write e (by omega) d2
    have f1 : Fr [8] [] [16] [] S E := (((a3.trans b3).trans c3).trans d3).trans e3
    have g36 : gI (sI E 33 (nI 0)) 36 = nI t := (f1.I (k := 36) rfl).trans h36
    obtain ⟨A', a1', a2', a3', a4'⟩ := e_four a (by omega) g36
    obtain ⟨B', b1', b2', b3', b4'⟩ := e_four b (by omega) a2'
    obtain ⟨C', c1', c2', c3', c4'⟩ := e_four c (by omega) b2'
    obtain ⟨D', d1', d2', d3', d4'⟩ := e_four d (by omega) c2'
    obtain ⟨E', e1', e2', e3', e4'⟩ := e_four e (by omega) d2'
    have f2 : Fr [36] [] [56] [] (sI E 33 (nI 0)) E' := (((a3'.trans b3').trans c3').trans d3').trans e3'
    have g56 : gA (sI E 33 (nI 0)) 56 = gA S 56 := f1.A (k := 56) rfl
    have t5 : Ts (t + 4 + 4 + 4 + 4 + 4) (gA E 16) (gA E' 56) := by
      rw [g56] at a4'
      exact Ts.four (Ts.four (Ts.four (Ts.four (Ts.four hb a a4 a4') b b4 b4') c c4 c4') d d4 d4') e e4 e4'
    refine ⟨nI (t + 4 + 4 + 4 + 4 + 4), E, E', ?_, ?_, h.tape (((f1.mono rfl rfl rfl rfl).sI (k := 33) rfl _).trans (f2.mono rfl rfl rfl rfl)) (Tp.of (t := t + 4 + 4 + 4 + 4 + 4) (by omega) ?_ e2' ?_)⟩
    · simp (disch := omega) only [k_let, Option.bind_some, ↓reduceIte, eq_self, true_or, or_true, n01_0, n01_1, kb_or, kb_0T, kb_0F, vn_0, vn_1, vn_k, nl_0, nl_1, nl_2, nl_3, nl_4, nl_5, nl_6, nl_7, nl_8, nl_9, nl_10, nl_11, nl_12, nl_13, nl_14, nl_15, nl_16, nl_20, nl_21, nl_22, nl_23, nl_24, nl_25, nl_26, nl_27, nl_28, nl_29, nl_30, nl_31, nl_32, nl_40, nl_41, nl_42, nl_43, nl_45, nl_47, nl_48, nl_50, nl_57, nl_59, nl_60, nl_61, nl_62, nl_63, nl_64, nl_91, nl_93, nl_94, nl_97, nl_98, nl_100, nl_110, nl_122, nl_130, nl_144, nl_160, nl_240, nl_241, nl_255, nl_256, nl_400, nl_800, nl_900, nl_999, nl_1000, nl_1001, nl_1024, nl_1103, nl_1928, nl_4321, nl_5560, nl_12345, nl_1000000, nl_1000003, nl_252645135, nl_858993459, nl_1431655765, nl_1000000000, nI_add, pk_mul, n_sub, n_neg, n_cl, leT, leF, ltT, ltF, eqT, eqF, kbT, s_II, s_In, s_IJ, s_IA, s_IL, s_IR, s_IC, s_JI, s_JJ, s_Jn, s_JA, s_JL, s_JR, s_JC, s_AI, s_AJ, s_AA, s_An, s_AL, s_AR, s_AC, s_LI, s_LJ, s_LA, s_LL, s_Ln, s_LR, s_LC, zleT, zleF, zltT, zltF, zeqT, zeqF, nzleT, nzleF, nzltT, nzltF, nzeqT, nzeqF, znleT, znleF, znltT, znltF, zneqT, zneqF, z_add, z_sub, z_mul, z_neg, z_an, z_na, z_sn, z_ns, z_mn, z_nm, Nat.add_sub_cancel, decide_true, decide_false, and_self, e_done, e_ref1, e_ref2, e_ref3, e_ref5, e_ref6, e_tel1, e_tel2, e_tel3, e_tel5, e_tel6, e_telN, rfT_m, h8, a1, b1, c1, d1, e1, e2]
    · have g : gI E 36 = nI t := g36
      simp (disch := omega) only [k_let, Option.bind_some, ↓reduceIte, eq_self, true_or, or_true, n01_0, n01_1, kb_or, kb_0T, kb_0F, vn_0, vn_1, vn_k, nl_0, nl_1, nl_2, nl_3, nl_4, nl_5, nl_6, nl_7, nl_8, nl_9, nl_10, nl_11, nl_12, nl_13, nl_14, nl_15, nl_16, nl_20, nl_21, nl_22, nl_23, nl_24, nl_25, nl_26, nl_27, nl_28, nl_29, nl_30, nl_31, nl_32, nl_40, nl_41, nl_42, nl_43, nl_45, nl_47, nl_48, nl_50, nl_57, nl_59, nl_60, nl_61, nl_62, nl_63, nl_64, nl_91, nl_93, nl_94, nl_97, nl_98, nl_100, nl_110, nl_122, nl_130, nl_144, nl_160, nl_240, nl_241, nl_255, nl_256, nl_400, nl_800, nl_900, nl_999, nl_1000, nl_1001, nl_1024, nl_1103, nl_1928, nl_4321, nl_5560, nl_12345, nl_1000000, nl_1000003, nl_252645135, nl_858993459, nl_1431655765, nl_1000000000, nI_add, pk_mul, n_sub, n_neg, n_cl, leT, leF, ltT, ltF, eqT, eqF, kbT, s_II, s_In, s_IJ, s_IA, s_IL, s_IR, s_IC, s_JI, s_JJ, s_Jn, s_JA, s_JL, s_JR, s_JC, s_AI, s_AJ, s_AA, s_An, s_AL, s_AR, s_AC, s_LI, s_LJ, s_LA, s_LL, s_Ln, s_LR, s_LC, zleT, zleF, zltT, zltF, zeqT, zeqF, nzleT, nzleF, nzltT, nzltF, nzeqT, nzeqF, znleT, znleF, znltT, znltF, zneqT, zneqF, z_add, z_sub, z_mul, z_neg, z_an, z_na, z_sn, z_ns, z_mn, z_nm, Nat.add_sub_cancel, decide_true, decide_false, and_self, e_done, e_ref1, e_ref2, e_ref3, e_ref5, e_ref6, e_tel1, e_tel2, e_tel3, e_tel5, e_tel6, e_telN, rfT_m, g, a1', b1', c1', d1', e1', e2']
    · exact (f2.I (k := 8) rfl).trans e2
    · rw [f2.A (k := 16) rfl]; exact t5
  · refine ⟨iZ (-((1 : Nat) : Int)), S, sI S 33 (nI 0), ?_, ?_, (Iv.of h |>.sI (k := 33) rfl _).1⟩
    · simp (disch := omega) only [k_let, Option.bind_some, ↓reduceIte, eq_self, true_or, or_true, n01_0, n01_1, kb_or, kb_0T, kb_0F, vn_0, vn_1, vn_k, nl_0, nl_1, nl_2, nl_3, nl_4, nl_5, nl_6, nl_7, nl_8, nl_9, nl_10, nl_11, nl_12, nl_13, nl_14, nl_15, nl_16, nl_20, nl_21, nl_22, nl_23, nl_24, nl_25, nl_26, nl_27, nl_28, nl_29, nl_30, nl_31, nl_32, nl_40, nl_41, nl_42, nl_43, nl_45, nl_47, nl_48, nl_50, nl_57, nl_59, nl_60, nl_61, nl_62, nl_63, nl_64, nl_91, nl_93, nl_94, nl_97, nl_98, nl_100, nl_110, nl_122, nl_130, nl_144, nl_160, nl_240, nl_241, nl_255, nl_256, nl_400, nl_800, nl_900, nl_999, nl_1000, nl_1001, nl_1024, nl_1103, nl_1928, nl_4321, nl_5560, nl_12345, nl_1000000, nl_1000003, nl_252645135, nl_858993459, nl_1431655765, nl_1000000000, nI_add, pk_mul, n_sub, n_neg, n_cl, leT, leF, ltT, ltF, eqT, eqF, kbT, s_II, s_In, s_IJ, s_IA, s_IL, s_IR, s_IC, s_JI, s_JJ, s_Jn, s_JA, s_JL, s_JR, s_JC, s_AI, s_AJ, s_AA, s_An, s_AL, s_AR, s_AC, s_LI, s_LJ, s_LA, s_LL, s_Ln, s_LR, s_LC, zleT, zleF, zltT, zltF, zeqT, zeqF, nzleT, nzleF, nzltT, nzltF, nzeqT, nzeqF, znleT, znleF, znltT, znltF, zneqT, zneqF, z_add, z_sub, z_mul, z_neg, z_an, z_na, z_sn, z_ns, z_mn, z_nm, Nat.add_sub_cancel, decide_true, decide_false, and_self, e_done, e_ref1, e_ref2, e_ref3, e_ref5, e_ref6, e_tel1, e_tel2, e_tel3, e_tel5, e_tel6, e_telN, rfT_m, h8]
    · simp (disch := omega) only [k_let, Option.bind_some, ↓reduceIte, eq_self, true_or, or_true, n01_0, n01_1, kb_or, kb_0T, kb_0F, vn_0, vn_1, vn_k, nl_0, nl_1, nl_2, nl_3, nl_4, nl_5, nl_6, nl_7, nl_8, nl_9, nl_10, nl_11, nl_12, nl_13, nl_14, nl_15, nl_16, nl_20, nl_21, nl_22, nl_23, nl_24, nl_25, nl_26, nl_27, nl_28, nl_29, nl_30, nl_31, nl_32, nl_40, nl_41, nl_42, nl_43, nl_45, nl_47, nl_48, nl_50, nl_57, nl_59, nl_60, nl_61, nl_62, nl_63, nl_64, nl_91, nl_93, nl_94, nl_97, nl_98, nl_100, nl_110, nl_122, nl_130, nl_144, nl_160, nl_240, nl_241, nl_255, nl_256, nl_400, nl_800, nl_900, nl_999, nl_1000, nl_1001, nl_1024, nl_1103, nl_1928, nl_4321, nl_5560, nl_12345, nl_1000000, nl_1000003, nl_252645135, nl_858993459, nl_1431655765, nl_1000000000, nI_add, pk_mul, n_sub, n_neg, n_cl, leT, leF, ltT, ltF, eqT, eqF, kbT, s_II, s_In, s_IJ, s_IA, s_IL, s_IR, s_IC, s_JI, s_JJ, s_Jn, s_JA, s_JL, s_JR, s_JC, s_AI, s_AJ, s_AA, s_An, s_AL, s_AR, s_AC, s_LI, s_LJ, s_LA, s_LL, s_Ln, s_LR, s_LC, zleT, zleF, zltT, zltF, zeqT, zeqF, nzleT, nzleF, nzltT, nzltF, nzeqT, nzeqF, znleT, znleF, znltT, znltF, zneqT, zneqF, z_add, z_sub, z_mul, z_neg, z_an, z_na, z_sn, z_ns, z_mn, z_nm, Nat.add_sub_cancel, decide_true, decide_false, and_self, e_done, e_ref1, e_ref2, e_ref3, e_ref5, e_ref6, e_tel1, e_tel2, e_tel3, e_tel5, e_tel6, e_telN, rfT_m, h36]
