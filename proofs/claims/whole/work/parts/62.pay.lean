/-! part 62: pay, funeral -/
def clI : List Nat := [0, 1, 2, 3, 4, 5, 6, 7, 9, 10, 11, 12, 13, 14, 15, 16, 17, 18, 19, 20, 21, 22, 23, 24, 25, 26, 27, 29, 33, 37, 38, 39, 41, 42, 43, 44, 45, 46, 47, 48, 49, 50, 51, 52, 53]
def clA : List Nat := [1, 3, 4, 5, 6, 7, 9, 10, 11, 12, 13, 14, 18, 19, 20, 21, 22, 24, 26, 27, 28, 30, 31, 38, 40, 42, 43, 45, 57, 58, 59, 60, 61, 66, 67, 68, 69, 70, 71, 72, 73, 74, 75, 76, 77, 78, 79]
abbrev Fc6 (S T : St) : Prop := Fr scI scJ (6 :: scA) scL S T
def CSw (r : Nat → Int32) (h : Nat → Nat) (S T : St) : Prop :=
  Fr clI scJ clA scL S T ∧ gI T 1 = nI (kc h (nD r)) ∧ (∀ i, i < 8 → i ≠ 1 → gI T i = gI S i) ∧ (∀ j, j < 15 → j ∉ [3, 4, 5, 6, 7] → gA T j = gA S j) ∧
  (∀ d, d < nD r → 0 < h d → gA T 3 (kc h d) = gA S 3 d ∧ gA T 4 (kc h d) = gA S 4 d ∧ gA T 5 (kc h d) = gA S 5 d ∧ gA T 6 (kc h d) = nI (h d) ∧ gA T 7 (kc h d) = gA S 7 d)
def MSw (r : Nat → Int32) (h : Nat → Nat) (r' : Nat → Int32) : Prop :=
  r' 1 = nI (kc h (nD r)) ∧ (∀ i, i ≠ 1 → i < 14 ∨ 94 ≤ i → r' i = r i) ∧
  (∀ d, d < nD r → 0 < h d → r' (14 + 5 * kc h d) = r (14 + 5 * d) ∧ r' (14 + 5 * kc h d + 1) = r (14 + 5 * d + 1) ∧ r' (14 + 5 * kc h d + 2) = r (14 + 5 * d + 2) ∧ r' (14 + 5 * kc h d + 3) = nI (h d) ∧ r' (14 + 5 * kc h d + 4) = r (14 + 5 * d + 4))
theorem sc6_8 {k : Nat} (h : k < 15) (h6 : k ≠ 6) : k ∉ (6 :: scA) := by
  intro q
  rcases List.mem_cons.mp q with q | q
  · exact h6 q
  · exact scA_15 (by omega) q
theorem c_sweep {r : Nat → Int32} {S U : St} {h : Nat → Nat} (hv : Iv r S) (f : Fc6 S U) (hU : ∀ d, d < nD r → gA U 6 d = nI (h d)) (hh : ∀ d, d < nD r → h d < 10) : ∃ T, f_X1_dropPlayed U = some T ∧ CSw r h S T := by
  have h1 : gI U 1 = nI (nD r) := (f.I (k := 1) rfl).trans hv.c.I1
  obtain ⟨T, a1, a2, a3, a4⟩ := e_drop (S0 := U) hv.wf.n16 h1 (h := h) (fun d hd => ⟨hU d hd, by have := hh d hd; omega⟩)
  have f2 : Fr clI scJ clA scL S T := (f.mono rfl rfl rfl rfl).trans (a3.mono rfl rfl rfl rfl)
  refine ⟨T, a1, f2, a2, fun i hi hn => ?_, fun j hj hn => ?_, fun d hd hp => ?_⟩
  · rw [a3.1 i (by simpa using hn)]; exact f.1 i (scI_8 (by omega))
  · rw [a3.2.2.1 j hn]; exact f.2.2.1 j (sc6_8 hj (fun e => hn (by rw [e]; decide)))
  · have g3 : gA U 3 = gA S 3 := f.2.2.1 3 (sc6_8 (by decide) (by decide))
    have g4 : gA U 4 = gA S 4 := f.2.2.1 4 (sc6_8 (by decide) (by decide))
    have g5 : gA U 5 = gA S 5 := f.2.2.1 5 (sc6_8 (by decide) (by decide))
    have g7 : gA U 7 = gA S 7 := f.2.2.1 7 (sc6_8 (by decide) (by decide))
    have q := a4 d hd hp
    refine ⟨?_, ?_, ?_, ?_, ?_⟩
    · rw [q 3 (by decide), g3]
    · rw [q 4 (by decide), g4]
    · rw [q 5 (by decide), g5]
    · rw [q 6 (by decide), hU d hd]
    · rw [q 7 (by decide), g7]
theorem m_sweep {r : Nat → Int32} {V : St} {h : Nat → Nat} (w : Wf r) (hV1 : ∀ d, d < nD r → gA V 53 (14 + 5 * d + 3) = nI (h d)) (hV2 : ∀ i, (∀ d, d < nD r → i ≠ 14 + 5 * d + 3) → gA V 53 i = r i) (hh : ∀ d, d < nD r → h d < 10) :
    ∃ T, f_X12_sweep V = some T ∧ Fr [] [] [53] [] V T ∧ MSw r h (gA T 53) := by
  have hn := w.n16
  obtain ⟨T, a1, a2, a3, a4, a5⟩ := e_sweep (S0 := V) hn ((hV2 1 (fun d _ => by omega)).trans w.r1) (h := h) (fun d hd => ⟨hV1 d hd, by have := hh d hd; omega⟩)
  refine ⟨T, a1, a3, a2, fun i h1 h2 => ?_, fun d hd hp => ?_⟩
  · rw [a5 i h1 (by omega)]
    exact hV2 i (fun d hd => by omega)
  · have q := a4 d hd hp
    refine ⟨?_, ?_, ?_, ?_, ?_⟩
    · rw [show 14 + 5 * kc h d = 14 + 5 * kc h d + 0 from rfl, q 0 (by decide)]; exact hV2 _ (fun e _ => by omega)
    · rw [q 1 (by decide)]; exact hV2 _ (fun e _ => by omega)
    · rw [q 2 (by decide)]; exact hV2 _ (fun e _ => by omega)
    · rw [q 3 (by decide)]; exact hV1 d hd
    · rw [q 4 (by decide)]; exact hV2 _ (fun e _ => by omega)
theorem inv_sw {r : Nat → Int32} {S T1 T : St} {h : Nat → Nat} (hv : Iv r S) (c : CSw r h S T1) (m : MSw r h (gA T 53)) (hh : ∀ d, d < nD r → h d < 10) (f : Fvl S T) (fI : ∀ i, i < 8 → gI T i = gI T1 i) (fA : ∀ j, j < 15 → gA T j = gA T1 j) (h32 : gI T 32 = gI T 34) (hR : Rf T) : Inv T := by
  refine hv.1.vil f ?_ h32 hR
  obtain ⟨-, c1, c2, c3, c4⟩ := c
  obtain ⟨m1, m2, m3⟩ := m
  rw [f.2.2.2.2.1, f.2.2.2.2.2]
  refine rv_swept hv.wf hv.rc hh ((fI 1 (by decide)).trans c1) (fun i hi hn => (fI i hi).trans (c2 i hi hn)) (fun j hj hn => (fA j hj).trans (c3 j hj hn)) (fun d hd hp => ?_) m1 m2 m3
  rw [fA 3 (by decide), fA 4 (by decide), fA 5 (by decide), fA 6 (by decide), fA 7 (by decide)]
  exact c4 d hd hp
theorem cl_32 {S T1 : St} {r : Nat → Int32} {h : Nat → Nat} (c : CSw r h S T1) : Fvl S T1 := c.1.mono rfl rfl rfl rfl
theorem p_pay (x y : Int32) : Pr (f_X11_pay x y) (f_X12_pay x y) := by
  intro S h
  have hv := Iv.of h
  generalize hr : gA S 53 = r at hv
  have h16 := hv.wf.n16
  have hw := hv.wf
  have l1 : (y < nI 1) = (y.toInt < (1 : Nat)) := lt_xn y 1 (by decide)
  have l2 : (y ≤ nI 9) = (y.toInt ≤ (9 : Nat)) := le_xn y 9 (by decide)
  unfold f_X11_pay f_X11_pay_11 f_X12_pay
  by_cases c : 1 ≤ y.toInt ∧ y.toInt ≤ 9
  · by_cases c1 : 0 ≤ x.toInt ∧ x.toInt < nD r
    · obtain ⟨k, rfl, hk, -⟩ := rng_n (x := y) (n := 10) (by omega)
      rw [n_ti (by omega)] at c
      obtain ⟨d, rfl, hd, -⟩ := rng_n c1
      obtain ⟨q1, q2, q3⟩ := hw.ha hd
      have q4 := (hv.c.C hd).2.2.2.1
      by_cases c2 : k ≤ dHa r d
      · let hf : Nat → Nat := fun e => if e = d then dHa r d - k else dHa r e
        have hh : ∀ e, e < nD r → hf e < 10 := fun e he => by
          show (if e = d then dHa r d - k else dHa r e) < 10
          have := (hw.ha he).2.1
          by_cases q : e = d
          · rw [if_pos q]; omega
          · rw [if_neg q]; omega
        obtain ⟨T1, t1, t2⟩ := c_sweep (U := sA S 6 d (nI (dHa r d - k))) (h := hf) hv ((Fr.refl S).sA rfl _ _) (fun e he => by
          rw [s_AA, u_a]
          show _ = nI (if e = d then dHa r d - k else dHa r e)
          by_cases q : e = d
          · rw [if_pos q, if_pos q]
          · rw [if_neg q, if_neg q]; exact (hv.c.C he).2.2.2.1) hh
        have e53 : gA T1 53 = r := (t2.1.A (k := 53) rfl).trans hr
        obtain ⟨T2, u1, u2, u3⟩ := m_sweep (V := sA (sI (sI T1 32 (nI 0)) 33 (nI 0)) 53 (14 + 5 * d + 3) (nI (dHa r d - k))) (h := hf) hw (fun e he => by
          rw [s_AA, s_IA, s_IA, e53, u_a]
          show _ = nI (if e = d then dHa r d - k else dHa r e)
          by_cases q : e = d
          · rw [if_pos q, if_pos (by omega)]
          · rw [if_neg q, if_neg (by omega)]; exact (hw.ha he).1) (fun i hi => by
          rw [s_AA, s_IA, s_IA, e53, u_n (hi d hd)]) hh
        have f : Fvl S (sI T2 34 (nI 0)) := (((((cl_32 t2).sI (k := 32) rfl _).sI (k := 33) rfl _).sA (k := 53) rfl _ _).trans (u2.mono rfl rfl rfl rfl)).sI (k := 34) rfl _
        refine ⟨nI (dHa r d - k), sI T1 32 (nI 0), sI T2 34 (nI 0), ?_, ?_, inv_sw hv t2 (T := sI T2 34 (nI 0)) u3 hh f (fun i hi => ?_) (fun j hj => ?_) ?_ ?_⟩
        · simp (disch := omega) only [k_let, Option.bind_some, ↓reduceIte, eq_self, true_or, or_true, n01_0, n01_1, kb_or, kb_0T, kb_0F, vn_0, vn_1, vn_k, nl_0, nl_1, nl_2, nl_3, nl_4, nl_5, nl_6, nl_7, nl_8, nl_9, nl_10, nl_11, nl_12, nl_13, nl_14, nl_15, nl_16, nl_20, nl_21, nl_22, nl_23, nl_24, nl_25, nl_26, nl_27, nl_28, nl_29, nl_30, nl_31, nl_32, nl_40, nl_41, nl_42, nl_43, nl_45, nl_47, nl_48, nl_50, nl_57, nl_59, nl_60, nl_61, nl_62, nl_63, nl_64, nl_91, nl_93, nl_94, nl_97, nl_98, nl_100, nl_110, nl_122, nl_130, nl_144, nl_160, nl_240, nl_241, nl_255, nl_256, nl_400, nl_800, nl_900, nl_999, nl_1000, nl_1001, nl_1024, nl_1103, nl_1928, nl_4321, nl_5560, nl_12345, nl_1000000, nl_1000003, nl_252645135, nl_858993459, nl_1431655765, nl_1000000000, nI_add, pk_mul, n_sub, n_neg, n_cl, leT, leF, ltT, ltF, eqT, eqF, kbT, s_II, s_In, s_IJ, s_IA, s_IL, s_IR, s_IC, s_JI, s_JJ, s_Jn, s_JA, s_JL, s_JR, s_JC, s_AI, s_AJ, s_AA, s_An, s_AL, s_AR, s_AC, s_LI, s_LJ, s_LA, s_LL, s_Ln, s_LR, s_LC, zleT, zleF, zltT, zltF, zeqT, zeqF, nzleT, nzleF, nzltT, nzltF, nzeqT, nzeqF, znleT, znleF, znltT, znltF, zneqT, zneqF, z_add, z_sub, z_mul, z_neg, z_an, z_na, z_sn, z_ns, z_mn, z_nm, Nat.add_sub_cancel, decide_true, decide_false, and_self, e_done, e_ref1, e_ref2, e_ref3, e_ref5, e_ref6, e_tel1, e_tel2, e_tel3, e_tel5, e_tel6, e_telN, rfT_m, ll_0, ll_1, ll_2, ll_7, ll_8, ll_9, ll_10, ll_20, ll_23, ll_24, ll_26, ll_30, ll_32, ll_48, ll_96, ll_240, ll_256, ll_294, ll_498, ll_999, ll_1000, ll_1103, ll_1476, ll_12345, ll_14836, ll_65536, ll_1000000, ll_1000003, ll_1048576, ll_1000000000, n_ti, kB_t, e_hasN hv.c hd, q4, t1]
        · simp (disch := omega) only [k_let, Option.bind_some, ↓reduceIte, eq_self, true_or, or_true, n01_0, n01_1, kb_or, kb_0T, kb_0F, vn_0, vn_1, vn_k, nl_0, nl_1, nl_2, nl_3, nl_4, nl_5, nl_6, nl_7, nl_8, nl_9, nl_10, nl_11, nl_12, nl_13, nl_14, nl_15, nl_16, nl_20, nl_21, nl_22, nl_23, nl_24, nl_25, nl_26, nl_27, nl_28, nl_29, nl_30, nl_31, nl_32, nl_40, nl_41, nl_42, nl_43, nl_45, nl_47, nl_48, nl_50, nl_57, nl_59, nl_60, nl_61, nl_62, nl_63, nl_64, nl_91, nl_93, nl_94, nl_97, nl_98, nl_100, nl_110, nl_122, nl_130, nl_144, nl_160, nl_240, nl_241, nl_255, nl_256, nl_400, nl_800, nl_900, nl_999, nl_1000, nl_1001, nl_1024, nl_1103, nl_1928, nl_4321, nl_5560, nl_12345, nl_1000000, nl_1000003, nl_252645135, nl_858993459, nl_1431655765, nl_1000000000, nI_add, pk_mul, n_sub, n_neg, n_cl, leT, leF, ltT, ltF, eqT, eqF, kbT, s_II, s_In, s_IJ, s_IA, s_IL, s_IR, s_IC, s_JI, s_JJ, s_Jn, s_JA, s_JL, s_JR, s_JC, s_AI, s_AJ, s_AA, s_An, s_AL, s_AR, s_AC, s_LI, s_LJ, s_LA, s_LL, s_Ln, s_LR, s_LC, zleT, zleF, zltT, zltF, zeqT, zeqF, nzleT, nzleF, nzltT, nzltF, nzeqT, nzeqF, znleT, znleF, znltT, znltF, zneqT, zneqF, z_add, z_sub, z_mul, z_neg, z_an, z_na, z_sn, z_ns, z_mn, z_nm, Nat.add_sub_cancel, decide_true, decide_false, and_self, e_done, e_ref1, e_ref2, e_ref3, e_ref5, e_ref6, e_tel1, e_tel2, e_tel3, e_tel5, e_tel6, e_telN, rfT_m, ll_0, ll_1, ll_2, ll_7, ll_8, ll_9, ll_10, ll_20, ll_23, ll_24, ll_26, ll_30, ll_32, ll_48, ll_96, ll_240, ll_256, ll_294, ll_498, ll_999, ll_1000, ll_1103, ll_1476, ll_12345, ll_14836, ll_65536, ll_1000000, ll_1000003, ll_1048576, ll_1000000000, n_ti, kB_t, e_in, decide_eq_true (show (1 : Int) ≤ (k : Int) ∧ (k : Int) ≤ 9 by omega), e_m_isDebt (irT hw (T := sI (sI T1 32 (nI 0)) 33 (nI 0)) e53), decide_eq_true (show (0 : Int) ≤ (d : Int) ∧ (d : Int) < (nD r : Int) by omega), e_m_ha (irT hw (T := sI (sI T1 32 (nI 0)) 33 (nI 0)) e53) hd, u1]
        · rw [s_In (by omega), u2.1 i (by simp), s_AI, s_In (by omega), s_In (by omega)]
        · rw [s_IA, u2.2.2.1 j (by simp; omega), s_An (by omega), s_IA, s_IA]
        · rw [s_II, s_In (by decide), u2.I rfl, s_AI, s_In (by decide), s_II]
        · unfold Rf
          rw [s_IA, s_IA, u2.A (k := 50) rfl, u2.A (k := 52) rfl, s_An (by decide), s_An (by decide), s_IA, s_IA, s_IA, s_IA, t2.1.A (k := 50) rfl, t2.1.A (k := 52) rfl]
          exact h.2.2.2.1
      · refine ⟨iZ (-((1 : Nat) : Int)), rfT (iZ (-((1 : Nat) : Int))) 0 S, tlT (iZ (-((1 : Nat) : Int))) 1 (sI (rfT (iZ (-((1 : Nat) : Int))) 0 S) 33 (nI 0)), ?_, ?_, h.refuse _ 0 1 (by decide)⟩
        · simp (disch := omega) only [k_let, Option.bind_some, ↓reduceIte, eq_self, true_or, or_true, n01_0, n01_1, kb_or, kb_0T, kb_0F, vn_0, vn_1, vn_k, nl_0, nl_1, nl_2, nl_3, nl_4, nl_5, nl_6, nl_7, nl_8, nl_9, nl_10, nl_11, nl_12, nl_13, nl_14, nl_15, nl_16, nl_20, nl_21, nl_22, nl_23, nl_24, nl_25, nl_26, nl_27, nl_28, nl_29, nl_30, nl_31, nl_32, nl_40, nl_41, nl_42, nl_43, nl_45, nl_47, nl_48, nl_50, nl_57, nl_59, nl_60, nl_61, nl_62, nl_63, nl_64, nl_91, nl_93, nl_94, nl_97, nl_98, nl_100, nl_110, nl_122, nl_130, nl_144, nl_160, nl_240, nl_241, nl_255, nl_256, nl_400, nl_800, nl_900, nl_999, nl_1000, nl_1001, nl_1024, nl_1103, nl_1928, nl_4321, nl_5560, nl_12345, nl_1000000, nl_1000003, nl_252645135, nl_858993459, nl_1431655765, nl_1000000000, nI_add, pk_mul, n_sub, n_neg, n_cl, leT, leF, ltT, ltF, eqT, eqF, kbT, s_II, s_In, s_IJ, s_IA, s_IL, s_IR, s_IC, s_JI, s_JJ, s_Jn, s_JA, s_JL, s_JR, s_JC, s_AI, s_AJ, s_AA, s_An, s_AL, s_AR, s_AC, s_LI, s_LJ, s_LA, s_LL, s_Ln, s_LR, s_LC, zleT, zleF, zltT, zltF, zeqT, zeqF, nzleT, nzleF, nzltT, nzltF, nzeqT, nzeqF, znleT, znleF, znltT, znltF, zneqT, zneqF, z_add, z_sub, z_mul, z_neg, z_an, z_na, z_sn, z_ns, z_mn, z_nm, Nat.add_sub_cancel, decide_true, decide_false, and_self, e_done, e_ref1, e_ref2, e_ref3, e_ref5, e_ref6, e_tel1, e_tel2, e_tel3, e_tel5, e_tel6, e_telN, rfT_m, ll_0, ll_1, ll_2, ll_7, ll_8, ll_9, ll_10, ll_20, ll_23, ll_24, ll_26, ll_30, ll_32, ll_48, ll_96, ll_240, ll_256, ll_294, ll_498, ll_999, ll_1000, ll_1103, ll_1476, ll_12345, ll_14836, ll_65536, ll_1000000, ll_1000003, ll_1048576, ll_1000000000, n_ti, kB_t, e_hasN hv.c hd, q4]
        · have z : nI (dHa r d) - nI k = iZ ((dHa r d : Int) - k) := by rw [n_Z, n_Z, z_sub]
          simp (disch := omega) only [k_let, Option.bind_some, ↓reduceIte, eq_self, true_or, or_true, n01_0, n01_1, kb_or, kb_0T, kb_0F, vn_0, vn_1, vn_k, nl_0, nl_1, nl_2, nl_3, nl_4, nl_5, nl_6, nl_7, nl_8, nl_9, nl_10, nl_11, nl_12, nl_13, nl_14, nl_15, nl_16, nl_20, nl_21, nl_22, nl_23, nl_24, nl_25, nl_26, nl_27, nl_28, nl_29, nl_30, nl_31, nl_32, nl_40, nl_41, nl_42, nl_43, nl_45, nl_47, nl_48, nl_50, nl_57, nl_59, nl_60, nl_61, nl_62, nl_63, nl_64, nl_91, nl_93, nl_94, nl_97, nl_98, nl_100, nl_110, nl_122, nl_130, nl_144, nl_160, nl_240, nl_241, nl_255, nl_256, nl_400, nl_800, nl_900, nl_999, nl_1000, nl_1001, nl_1024, nl_1103, nl_1928, nl_4321, nl_5560, nl_12345, nl_1000000, nl_1000003, nl_252645135, nl_858993459, nl_1431655765, nl_1000000000, nI_add, pk_mul, n_sub, n_neg, n_cl, leT, leF, ltT, ltF, eqT, eqF, kbT, s_II, s_In, s_IJ, s_IA, s_IL, s_IR, s_IC, s_JI, s_JJ, s_Jn, s_JA, s_JL, s_JR, s_JC, s_AI, s_AJ, s_AA, s_An, s_AL, s_AR, s_AC, s_LI, s_LJ, s_LA, s_LL, s_Ln, s_LR, s_LC, zleT, zleF, zltT, zltF, zeqT, zeqF, nzleT, nzleF, nzltT, nzltF, nzeqT, nzeqF, znleT, znleF, znltT, znltF, zneqT, zneqF, z_add, z_sub, z_mul, z_neg, z_an, z_na, z_sn, z_ns, z_mn, z_nm, Nat.add_sub_cancel, decide_true, decide_false, and_self, e_done, e_ref1, e_ref2, e_ref3, e_ref5, e_ref6, e_tel1, e_tel2, e_tel3, e_tel5, e_tel6, e_telN, rfT_m, ll_0, ll_1, ll_2, ll_7, ll_8, ll_9, ll_10, ll_20, ll_23, ll_24, ll_26, ll_30, ll_32, ll_48, ll_96, ll_240, ll_256, ll_294, ll_498, ll_999, ll_1000, ll_1103, ll_1476, ll_12345, ll_14836, ll_65536, ll_1000000, ll_1000003, ll_1048576, ll_1000000000, n_ti, kB_t, z, e_in, decide_eq_true (show (1 : Int) ≤ (k : Int) ∧ (k : Int) ≤ 9 by omega), e_m_isDebt (irT hw (T := sI (rfT (iZ (-((1 : Nat) : Int))) 0 S) 33 (nI 0)) hr), decide_eq_true (show (0 : Int) ≤ (d : Int) ∧ (d : Int) < (nD r : Int) by omega), e_m_ha (irT hw (T := sI (rfT (iZ (-((1 : Nat) : Int))) 0 S) 33 (nI 0)) hr) hd]
    · refine ⟨iZ (-((2 : Nat) : Int)), rfT (iZ (-((2 : Nat) : Int))) 1 S, tlT (iZ (-((2 : Nat) : Int))) 2 (sI (rfT (iZ (-((2 : Nat) : Int))) 1 S) 33 (nI 0)), ?_, ?_, h.refuse _ 1 2 (by decide)⟩
      · simp (disch := omega) only [k_let, Option.bind_some, ↓reduceIte, eq_self, true_or, or_true, n01_0, n01_1, kb_or, kb_0T, kb_0F, vn_0, vn_1, vn_k, nl_0, nl_1, nl_2, nl_3, nl_4, nl_5, nl_6, nl_7, nl_8, nl_9, nl_10, nl_11, nl_12, nl_13, nl_14, nl_15, nl_16, nl_20, nl_21, nl_22, nl_23, nl_24, nl_25, nl_26, nl_27, nl_28, nl_29, nl_30, nl_31, nl_32, nl_40, nl_41, nl_42, nl_43, nl_45, nl_47, nl_48, nl_50, nl_57, nl_59, nl_60, nl_61, nl_62, nl_63, nl_64, nl_91, nl_93, nl_94, nl_97, nl_98, nl_100, nl_110, nl_122, nl_130, nl_144, nl_160, nl_240, nl_241, nl_255, nl_256, nl_400, nl_800, nl_900, nl_999, nl_1000, nl_1001, nl_1024, nl_1103, nl_1928, nl_4321, nl_5560, nl_12345, nl_1000000, nl_1000003, nl_252645135, nl_858993459, nl_1431655765, nl_1000000000, nI_add, pk_mul, n_sub, n_neg, n_cl, leT, leF, ltT, ltF, eqT, eqF, kbT, s_II, s_In, s_IJ, s_IA, s_IL, s_IR, s_IC, s_JI, s_JJ, s_Jn, s_JA, s_JL, s_JR, s_JC, s_AI, s_AJ, s_AA, s_An, s_AL, s_AR, s_AC, s_LI, s_LJ, s_LA, s_LL, s_Ln, s_LR, s_LC, zleT, zleF, zltT, zltF, zeqT, zeqF, nzleT, nzleF, nzltT, nzltF, nzeqT, nzeqF, znleT, znleF, znltT, znltF, zneqT, zneqF, z_add, z_sub, z_mul, z_neg, z_an, z_na, z_sn, z_ns, z_mn, z_nm, Nat.add_sub_cancel, decide_true, decide_false, and_self, e_done, e_ref1, e_ref2, e_ref3, e_ref5, e_ref6, e_tel1, e_tel2, e_tel3, e_tel5, e_tel6, e_telN, rfT_m, ll_0, ll_1, ll_2, ll_7, ll_8, ll_9, ll_10, ll_20, ll_23, ll_24, ll_26, ll_30, ll_32, ll_48, ll_96, ll_240, ll_256, ll_294, ll_498, ll_999, ll_1000, ll_1103, ll_1476, ll_12345, ll_14836, ll_65536, ll_1000000, ll_1000003, ll_1048576, ll_1000000000, n_ti, kB_t, l1, l2, show ¬ y.toInt < (1 : Nat) by omega, show y.toInt ≤ (9 : Nat) by omega, e_has hv.c, decide_eq_false c1]
      · simp (disch := omega) only [k_let, Option.bind_some, ↓reduceIte, eq_self, true_or, or_true, n01_0, n01_1, kb_or, kb_0T, kb_0F, vn_0, vn_1, vn_k, nl_0, nl_1, nl_2, nl_3, nl_4, nl_5, nl_6, nl_7, nl_8, nl_9, nl_10, nl_11, nl_12, nl_13, nl_14, nl_15, nl_16, nl_20, nl_21, nl_22, nl_23, nl_24, nl_25, nl_26, nl_27, nl_28, nl_29, nl_30, nl_31, nl_32, nl_40, nl_41, nl_42, nl_43, nl_45, nl_47, nl_48, nl_50, nl_57, nl_59, nl_60, nl_61, nl_62, nl_63, nl_64, nl_91, nl_93, nl_94, nl_97, nl_98, nl_100, nl_110, nl_122, nl_130, nl_144, nl_160, nl_240, nl_241, nl_255, nl_256, nl_400, nl_800, nl_900, nl_999, nl_1000, nl_1001, nl_1024, nl_1103, nl_1928, nl_4321, nl_5560, nl_12345, nl_1000000, nl_1000003, nl_252645135, nl_858993459, nl_1431655765, nl_1000000000, nI_add, pk_mul, n_sub, n_neg, n_cl, leT, leF, ltT, ltF, eqT, eqF, kbT, s_II, s_In, s_IJ, s_IA, s_IL, s_IR, s_IC, s_JI, s_JJ, s_Jn, s_JA, s_JL, s_JR, s_JC, s_AI, s_AJ, s_AA, s_An, s_AL, s_AR, s_AC, s_LI, s_LJ, s_LA, s_LL, s_Ln, s_LR, s_LC, zleT, zleF, zltT, zltF, zeqT, zeqF, nzleT, nzleF, nzltT, nzltF, nzeqT, nzeqF, znleT, znleF, znltT, znltF, zneqT, zneqF, z_add, z_sub, z_mul, z_neg, z_an, z_na, z_sn, z_ns, z_mn, z_nm, Nat.add_sub_cancel, decide_true, decide_false, and_self, e_done, e_ref1, e_ref2, e_ref3, e_ref5, e_ref6, e_tel1, e_tel2, e_tel3, e_tel5, e_tel6, e_telN, rfT_m, ll_0, ll_1, ll_2, ll_7, ll_8, ll_9, ll_10, ll_20, ll_23, ll_24, ll_26, ll_30, ll_32, ll_48, ll_96, ll_240, ll_256, ll_294, ll_498, ll_999, ll_1000, ll_1103, ll_1476, ll_12345, ll_14836, ll_65536, ll_1000000, ll_1000003, ll_1048576, ll_1000000000, n_ti, kB_t, e_in, decide_eq_true c, e_m_isDebt (irT hw (T := sI (rfT (iZ (-((2 : Nat) : Int))) 1 S) 33 (nI 0)) hr), decide_eq_false c1]
  · refine ⟨iZ (-((1 : Nat) : Int)), rfT (iZ (-((1 : Nat) : Int))) 0 S, tlT (iZ (-((1 : Nat) : Int))) 1 (sI (rfT (iZ (-((1 : Nat) : Int))) 0 S) 33 (nI 0)), ?_, ?_, h.refuse _ 0 1 (by decide)⟩
    · by_cases c3 : y.toInt < (1 : Nat)
      · simp (disch := omega) only [k_let, Option.bind_some, ↓reduceIte, eq_self, true_or, or_true, n01_0, n01_1, kb_or, kb_0T, kb_0F, vn_0, vn_1, vn_k, nl_0, nl_1, nl_2, nl_3, nl_4, nl_5, nl_6, nl_7, nl_8, nl_9, nl_10, nl_11, nl_12, nl_13, nl_14, nl_15, nl_16, nl_20, nl_21, nl_22, nl_23, nl_24, nl_25, nl_26, nl_27, nl_28, nl_29, nl_30, nl_31, nl_32, nl_40, nl_41, nl_42, nl_43, nl_45, nl_47, nl_48, nl_50, nl_57, nl_59, nl_60, nl_61, nl_62, nl_63, nl_64, nl_91, nl_93, nl_94, nl_97, nl_98, nl_100, nl_110, nl_122, nl_130, nl_144, nl_160, nl_240, nl_241, nl_255, nl_256, nl_400, nl_800, nl_900, nl_999, nl_1000, nl_1001, nl_1024, nl_1103, nl_1928, nl_4321, nl_5560, nl_12345, nl_1000000, nl_1000003, nl_252645135, nl_858993459, nl_1431655765, nl_1000000000, nI_add, pk_mul, n_sub, n_neg, n_cl, leT, leF, ltT, ltF, eqT, eqF, kbT, s_II, s_In, s_IJ, s_IA, s_IL, s_IR, s_IC, s_JI, s_JJ, s_Jn, s_JA, s_JL, s_JR, s_JC, s_AI, s_AJ, s_AA, s_An, s_AL, s_AR, s_AC, s_LI, s_LJ, s_LA, s_LL, s_Ln, s_LR, s_LC, zleT, zleF, zltT, zltF, zeqT, zeqF, nzleT, nzleF, nzltT, nzltF, nzeqT, nzeqF, znleT, znleF, znltT, znltF, zneqT, zneqF, z_add, z_sub, z_mul, z_neg, z_an, z_na, z_sn, z_ns, z_mn, z_nm, Nat.add_sub_cancel, decide_true, decide_false, and_self, e_done, e_ref1, e_ref2, e_ref3, e_ref5, e_ref6, e_tel1, e_tel2, e_tel3, e_tel5, e_tel6, e_telN, rfT_m, ll_0, ll_1, ll_2, ll_7, ll_8, ll_9, ll_10, ll_20, ll_23, ll_24, ll_26, ll_30, ll_32, ll_48, ll_96, ll_240, ll_256, ll_294, ll_498, ll_999, ll_1000, ll_1103, ll_1476, ll_12345, ll_14836, ll_65536, ll_1000000, ll_1000003, ll_1048576, ll_1000000000, n_ti, kB_t, l1, c3]
      · simp (disch := omega) only [k_let, Option.bind_some, ↓reduceIte, eq_self, true_or, or_true, n01_0, n01_1, kb_or, kb_0T, kb_0F, vn_0, vn_1, vn_k, nl_0, nl_1, nl_2, nl_3, nl_4, nl_5, nl_6, nl_7, nl_8, nl_9, nl_10, nl_11, nl_12, nl_13, nl_14, nl_15, nl_16, nl_20, nl_21, nl_22, nl_23, nl_24, nl_25, nl_26, nl_27, nl_28, nl_29, nl_30, nl_31, nl_32, nl_40, nl_41, nl_42, nl_43, nl_45, nl_47, nl_48, nl_50, nl_57, nl_59, nl_60, nl_61, nl_62, nl_63, nl_64, nl_91, nl_93, nl_94, nl_97, nl_98, nl_100, nl_110, nl_122, nl_130, nl_144, nl_160, nl_240, nl_241, nl_255, nl_256, nl_400, nl_800, nl_900, nl_999, nl_1000, nl_1001, nl_1024, nl_1103, nl_1928, nl_4321, nl_5560, nl_12345, nl_1000000, nl_1000003, nl_252645135, nl_858993459, nl_1431655765, nl_1000000000, nI_add, pk_mul, n_sub, n_neg, n_cl, leT, leF, ltT, ltF, eqT, eqF, kbT, s_II, s_In, s_IJ, s_IA, s_IL, s_IR, s_IC, s_JI, s_JJ, s_Jn, s_JA, s_JL, s_JR, s_JC, s_AI, s_AJ, s_AA, s_An, s_AL, s_AR, s_AC, s_LI, s_LJ, s_LA, s_LL, s_Ln, s_LR, s_LC, zleT, zleF, zltT, zltF, zeqT, zeqF, nzleT, nzleF, nzltT, nzltF, nzeqT, nzeqF, znleT, znleF, znltT, znltF, zneqT, zneqF, z_add, z_sub, z_mul, z_neg, z_an, z_na, z_sn, z_ns, z_mn, z_nm, Nat.add_sub_cancel, decide_true, decide_false, and_self, e_done, e_ref1, e_ref2, e_ref3, e_ref5, e_ref6, e_tel1, e_tel2, e_tel3, e_tel5, e_tel6, e_telN, rfT_m, ll_0, ll_1, ll_2, ll_7, ll_8, ll_9, ll_10, ll_20, ll_23, ll_24, ll_26, ll_30, ll_32, ll_48, ll_96, ll_240, ll_256, ll_294, ll_498, ll_999, ll_1000, ll_1103, ll_1476, ll_12345, ll_14836, ll_65536, ll_1000000, ll_1000003, ll_1048576, ll_1000000000, n_ti, kB_t, l1, l2, c3, show ¬ y.toInt ≤ (9 : Nat) by omega]
    · simp (disch := omega) only [k_let, Option.bind_some, ↓reduceIte, eq_self, true_or, or_true, n01_0, n01_1, kb_or, kb_0T, kb_0F, vn_0, vn_1, vn_k, nl_0, nl_1, nl_2, nl_3, nl_4, nl_5, nl_6, nl_7, nl_8, nl_9, nl_10, nl_11, nl_12, nl_13, nl_14, nl_15, nl_16, nl_20, nl_21, nl_22, nl_23, nl_24, nl_25, nl_26, nl_27, nl_28, nl_29, nl_30, nl_31, nl_32, nl_40, nl_41, nl_42, nl_43, nl_45, nl_47, nl_48, nl_50, nl_57, nl_59, nl_60, nl_61, nl_62, nl_63, nl_64, nl_91, nl_93, nl_94, nl_97, nl_98, nl_100, nl_110, nl_122, nl_130, nl_144, nl_160, nl_240, nl_241, nl_255, nl_256, nl_400, nl_800, nl_900, nl_999, nl_1000, nl_1001, nl_1024, nl_1103, nl_1928, nl_4321, nl_5560, nl_12345, nl_1000000, nl_1000003, nl_252645135, nl_858993459, nl_1431655765, nl_1000000000, nI_add, pk_mul, n_sub, n_neg, n_cl, leT, leF, ltT, ltF, eqT, eqF, kbT, s_II, s_In, s_IJ, s_IA, s_IL, s_IR, s_IC, s_JI, s_JJ, s_Jn, s_JA, s_JL, s_JR, s_JC, s_AI, s_AJ, s_AA, s_An, s_AL, s_AR, s_AC, s_LI, s_LJ, s_LA, s_LL, s_Ln, s_LR, s_LC, zleT, zleF, zltT, zltF, zeqT, zeqF, nzleT, nzleF, nzltT, nzltF, nzeqT, nzeqF, znleT, znleF, znltT, znltF, zneqT, zneqF, z_add, z_sub, z_mul, z_neg, z_an, z_na, z_sn, z_ns, z_mn, z_nm, Nat.add_sub_cancel, decide_true, decide_false, and_self, e_done, e_ref1, e_ref2, e_ref3, e_ref5, e_ref6, e_tel1, e_tel2, e_tel3, e_tel5, e_tel6, e_telN, rfT_m, ll_0, ll_1, ll_2, ll_7, ll_8, ll_9, ll_10, ll_20, ll_23, ll_24, ll_26, ll_30, ll_32, ll_48, ll_96, ll_240, ll_256, ll_294, ll_498, ll_999, ll_1000, ll_1103, ll_1476, ll_12345, ll_14836, ll_65536, ll_1000000, ll_1000003, ll_1048576, ll_1000000000, n_ti, kB_t, e_in, decide_eq_false c]
def sm (f : Nat → Nat) : Nat → Nat
  | 0 => 0
  | d + 1 => sm f d + f d
theorem sm_le {f : Nat → Nat} {b : Nat} : ∀ {n : Nat}, (∀ d, d < n → f d ≤ b) → sm f n ≤ b * n := by
  intro n
  induction n with
  | zero => intro _; exact Nat.zero_le _
  | succ n ih =>
    intro h
    have h1 := ih (fun d hd => h d (by omega))
    have h2 := h n (by omega)
    show sm f n + f n ≤ b * (n + 1)
    rw [Nat.mul_succ]
    omega
def hit (r : Nat → Int32) (k d : Nat) : Bool := decide (dOw r d = k) || decide (dCr r d = k)
def bHa (r : Nat → Int32) (k d : Nat) : Nat := if hit r k d = true then 0 else dHa r d
def bGo (r : Nat → Int32) (k d : Nat) : Nat := if hit r k d = true then dHa r d else 0
theorem bGo_le {r : Nat → Int32} (w : Wf r) (k : Nat) {m : Nat} (hm : m ≤ nD r) : sm (bGo r k) m ≤ 9 * m := sm_le (fun d hd => by
  have := (w.ha (show d < nD r by omega)).2.1
  unfold bGo
  by_cases c : hit r k d = true
  · rw [if_pos c]; omega
  · rw [if_neg c]; omega)
theorem l_bury {r : Nat → Int32} {S : St} (hv : Iv r S) {k : Nat} (hk : k < 8) : ∀ (m f d : Nat) (U : St), d + m = nD r → m < f → Fr [] [] [6] [] S U → (∀ e, e < nD r → gA U 6 e = nI (if e < d then bHa r k e else dHa r e)) →
    ∃ V, f_X1_bury_4 f (nI k) (nI (sm (bGo r k) d)) (nI d) U = (f_X1_dropPlayed V).bind (fun q => some (nI (sm (bGo r k) (nD r)), q)) ∧ Fr [] [] [6] [] S V ∧ ∀ e, e < nD r → gA V 6 e = nI (bHa r k e) := by
  have h16 := hv.wf.n16
  intro m
  induction m with
  | zero =>
    intro f d U hd hf hF hp
    obtain ⟨f, rfl⟩ : ∃ g, f = g + 1 := ⟨f - 1, by omega⟩
    have : d = nD r := by omega
    subst this
    refine ⟨U, ?_, hF, fun e he => by rw [hp e he, if_pos he]⟩
    have h1 : gI U 1 = nI (nD r) := (hF.I (k := 1) rfl).trans hv.c.I1
    rw [f_X1_bury_4, f_X1_bury_60]
    simp (disch := omega) only [k_let, Option.bind_some, ↓reduceIte, eq_self, true_or, or_true, n01_0, n01_1, kb_or, kb_0T, kb_0F, vn_0, vn_1, vn_k, nl_0, nl_1, nl_2, nl_3, nl_4, nl_5, nl_6, nl_7, nl_8, nl_9, nl_10, nl_11, nl_12, nl_13, nl_14, nl_15, nl_16, nl_20, nl_21, nl_22, nl_23, nl_24, nl_25, nl_26, nl_27, nl_28, nl_29, nl_30, nl_31, nl_32, nl_40, nl_41, nl_42, nl_43, nl_45, nl_47, nl_48, nl_50, nl_57, nl_59, nl_60, nl_61, nl_62, nl_63, nl_64, nl_91, nl_93, nl_94, nl_97, nl_98, nl_100, nl_110, nl_122, nl_130, nl_144, nl_160, nl_240, nl_241, nl_255, nl_256, nl_400, nl_800, nl_900, nl_999, nl_1000, nl_1001, nl_1024, nl_1103, nl_1928, nl_4321, nl_5560, nl_12345, nl_1000000, nl_1000003, nl_252645135, nl_858993459, nl_1431655765, nl_1000000000, nI_add, pk_mul, n_sub, n_neg, n_cl, leT, leF, ltT, ltF, eqT, eqF, kbT, s_II, s_In, s_IJ, s_IA, s_IL, s_IR, s_IC, s_JI, s_JJ, s_Jn, s_JA, s_JL, s_JR, s_JC, s_AI, s_AJ, s_AA, s_An, s_AL, s_AR, s_AC, s_LI, s_LJ, s_LA, s_LL, s_Ln, s_LR, s_LC, h1]
  | succ m ih =>
    intro f d U hd hf hF hp
    obtain ⟨f, rfl⟩ : ∃ g, f = g + 1 := ⟨f - 1, by omega⟩
    have hdn : d < nD r := by omega
    have h1 : gI U 1 = nI (nD r) := (hF.I (k := 1) rfl).trans hv.c.I1
    have e3 : gA U 3 d = nI (dOw r d) := by rw [hF.A (k := 3) rfl]; exact (hv.c.C hdn).1
    have e4 : gA U 4 d = nI (dCr r d) := by rw [hF.A (k := 4) rfl]; exact (hv.c.C hdn).2.1
    have e6 : gA U 6 d = nI (dHa r d) := by rw [hp d hdn, if_neg (Nat.lt_irrefl _)]
    have o8 := (hv.wf.ow hdn).2
    have c8 := (hv.wf.cr hdn).2
    have hb := bGo_le hv.wf k (m := d) (by omega)
    by_cases c : hit r k d = true
    · have e1 : f_X1_bury_4 (f + 1) (nI k) (nI (sm (bGo r k) d)) (nI d) U = f_X1_bury_4 f (nI k) (nI (sm (bGo r k) (d + 1))) (nI (d + 1)) (sA U 6 d (nI 0)) := by
        have es : sm (bGo r k) (d + 1) = sm (bGo r k) d + dHa r d := by
          show sm (bGo r k) d + bGo r k d = _
          unfold bGo
          rw [if_pos c]
        rw [f_X1_bury_4, es]
        by_cases q : dOw r d = k
        · simp (disch := omega) only [k_let, Option.bind_some, ↓reduceIte, eq_self, true_or, or_true, n01_0, n01_1, kb_or, kb_0T, kb_0F, vn_0, vn_1, vn_k, nl_0, nl_1, nl_2, nl_3, nl_4, nl_5, nl_6, nl_7, nl_8, nl_9, nl_10, nl_11, nl_12, nl_13, nl_14, nl_15, nl_16, nl_20, nl_21, nl_22, nl_23, nl_24, nl_25, nl_26, nl_27, nl_28, nl_29, nl_30, nl_31, nl_32, nl_40, nl_41, nl_42, nl_43, nl_45, nl_47, nl_48, nl_50, nl_57, nl_59, nl_60, nl_61, nl_62, nl_63, nl_64, nl_91, nl_93, nl_94, nl_97, nl_98, nl_100, nl_110, nl_122, nl_130, nl_144, nl_160, nl_240, nl_241, nl_255, nl_256, nl_400, nl_800, nl_900, nl_999, nl_1000, nl_1001, nl_1024, nl_1103, nl_1928, nl_4321, nl_5560, nl_12345, nl_1000000, nl_1000003, nl_252645135, nl_858993459, nl_1431655765, nl_1000000000, nI_add, pk_mul, n_sub, n_neg, n_cl, leT, leF, ltT, ltF, eqT, eqF, kbT, s_II, s_In, s_IJ, s_IA, s_IL, s_IR, s_IC, s_JI, s_JJ, s_Jn, s_JA, s_JL, s_JR, s_JC, s_AI, s_AJ, s_AA, s_An, s_AL, s_AR, s_AC, s_LI, s_LJ, s_LA, s_LL, s_Ln, s_LR, s_LC, f_X1_bury_38, f_X1_bury_54, h1, e3, e6]
        · have q2 : dCr r d = k := by
            unfold hit at c
            rw [Bool.or_eq_true, decide_eq_true_eq, decide_eq_true_eq] at c
            exact c.resolve_left q
          simp (disch := omega) only [k_let, Option.bind_some, ↓reduceIte, eq_self, true_or, or_true, n01_0, n01_1, kb_or, kb_0T, kb_0F, vn_0, vn_1, vn_k, nl_0, nl_1, nl_2, nl_3, nl_4, nl_5, nl_6, nl_7, nl_8, nl_9, nl_10, nl_11, nl_12, nl_13, nl_14, nl_15, nl_16, nl_20, nl_21, nl_22, nl_23, nl_24, nl_25, nl_26, nl_27, nl_28, nl_29, nl_30, nl_31, nl_32, nl_40, nl_41, nl_42, nl_43, nl_45, nl_47, nl_48, nl_50, nl_57, nl_59, nl_60, nl_61, nl_62, nl_63, nl_64, nl_91, nl_93, nl_94, nl_97, nl_98, nl_100, nl_110, nl_122, nl_130, nl_144, nl_160, nl_240, nl_241, nl_255, nl_256, nl_400, nl_800, nl_900, nl_999, nl_1000, nl_1001, nl_1024, nl_1103, nl_1928, nl_4321, nl_5560, nl_12345, nl_1000000, nl_1000003, nl_252645135, nl_858993459, nl_1431655765, nl_1000000000, nI_add, pk_mul, n_sub, n_neg, n_cl, leT, leF, ltT, ltF, eqT, eqF, kbT, s_II, s_In, s_IJ, s_IA, s_IL, s_IR, s_IC, s_JI, s_JJ, s_Jn, s_JA, s_JL, s_JR, s_JC, s_AI, s_AJ, s_AA, s_An, s_AL, s_AR, s_AC, s_LI, s_LJ, s_LA, s_LL, s_Ln, s_LR, s_LC, f_X1_bury_38, f_X1_bury_54, h1, e3, e4, e6]
      rw [e1]
      refine ih f (d + 1) _ (by omega) (by omega) (hF.sA rfl _ _) (fun e he => ?_)
      rw [s_AA, u_a]
      by_cases q : e = d
      · rw [if_pos q, if_pos (by omega)]
        unfold bHa
        rw [q, if_pos c]
      · rw [if_neg q, hp e he]
        by_cases z : e < d
        · rw [if_pos z, if_pos (by omega)]
        · rw [if_neg z, if_neg (by omega)]
    · have e1 : f_X1_bury_4 (f + 1) (nI k) (nI (sm (bGo r k) d)) (nI d) U = f_X1_bury_4 f (nI k) (nI (sm (bGo r k) (d + 1))) (nI (d + 1)) U := by
        have es : sm (bGo r k) (d + 1) = sm (bGo r k) d := by
          show sm (bGo r k) d + bGo r k d = _
          unfold bGo
          rw [if_neg c]; rfl
        have q : dOw r d ≠ k ∧ dCr r d ≠ k := by
          unfold hit at c
          rw [Bool.or_eq_true, decide_eq_true_eq, decide_eq_true_eq] at c
          exact ⟨fun e => c (Or.inl e), fun e => c (Or.inr e)⟩
        have q1 := q.1
        have q2 := q.2
        rw [f_X1_bury_4, es]
        simp (disch := omega) only [k_let, Option.bind_some, ↓reduceIte, eq_self, true_or, or_true, n01_0, n01_1, kb_or, kb_0T, kb_0F, vn_0, vn_1, vn_k, nl_0, nl_1, nl_2, nl_3, nl_4, nl_5, nl_6, nl_7, nl_8, nl_9, nl_10, nl_11, nl_12, nl_13, nl_14, nl_15, nl_16, nl_20, nl_21, nl_22, nl_23, nl_24, nl_25, nl_26, nl_27, nl_28, nl_29, nl_30, nl_31, nl_32, nl_40, nl_41, nl_42, nl_43, nl_45, nl_47, nl_48, nl_50, nl_57, nl_59, nl_60, nl_61, nl_62, nl_63, nl_64, nl_91, nl_93, nl_94, nl_97, nl_98, nl_100, nl_110, nl_122, nl_130, nl_144, nl_160, nl_240, nl_241, nl_255, nl_256, nl_400, nl_800, nl_900, nl_999, nl_1000, nl_1001, nl_1024, nl_1103, nl_1928, nl_4321, nl_5560, nl_12345, nl_1000000, nl_1000003, nl_252645135, nl_858993459, nl_1431655765, nl_1000000000, nI_add, pk_mul, n_sub, n_neg, n_cl, leT, leF, ltT, ltF, eqT, eqF, kbT, s_II, s_In, s_IJ, s_IA, s_IL, s_IR, s_IC, s_JI, s_JJ, s_Jn, s_JA, s_JL, s_JR, s_JC, s_AI, s_AJ, s_AA, s_An, s_AL, s_AR, s_AC, s_LI, s_LJ, s_LA, s_LL, s_Ln, s_LR, s_LC, f_X1_bury_38, f_X1_bury_54, h1, e3, e4, e6]
      rw [e1]
      refine ih f (d + 1) _ (by omega) (by omega) hF (fun e he => ?_)
      rw [hp e he]
      by_cases q : e = d
      · rw [q, if_neg (Nat.lt_irrefl _), if_pos (by omega)]
        unfold bHa
        rw [if_neg c]
      · by_cases z : e < d
        · rw [if_pos z, if_pos (by omega)]
        · rw [if_neg z, if_neg (by omega)]
theorem l_funeral {r : Nat → Int32} (w : Wf r) {k : Nat} (hk : k < 8) {S : St} (hS : gA S 53 = r) : ∀ (m f d : Nat) (U : St), d + m = nD r → m < f → Fr [] [] [53] [] S U → (∀ i, gA U 53 i = if 14 ≤ i ∧ i < 14 + 5 * d ∧ i % 5 = 2 then nI (bHa r k ((i - 17) / 5)) else r i) →
    ∃ V, f_X12_funeral_22 f (nI k) (nI (sm (bGo r k) d)) (nI d) U = (f_X12_sweep V).bind (fun q => (f_X12_tell (nI (sm (bGo r k) (nD r))) q).bind fun q85 => some (q85.1, q85.2)) ∧ Fr [] [] [53] [] S V ∧ ∀ i, gA V 53 i = if 14 ≤ i ∧ i < 14 + 5 * nD r ∧ i % 5 = 2 then nI (bHa r k ((i - 17) / 5)) else r i := by
  have h16 := w.n16
  intro m
  induction m with
  | zero =>
    intro f d U hd hf hF hp
    obtain ⟨f, rfl⟩ : ∃ g, f = g + 1 := ⟨f - 1, by omega⟩
    have : d = nD r := by omega
    subst this
    refine ⟨U, ?_, hF, hp⟩
    have h1 : gA U 53 1 = nI (nD r) := by rw [hp 1, if_neg (by omega)]; exact w.r1
    rw [f_X12_funeral_22]
    simp (disch := omega) only [k_let, Option.bind_some, ↓reduceIte, eq_self, true_or, or_true, n01_0, n01_1, kb_or, kb_0T, kb_0F, vn_0, vn_1, vn_k, nl_0, nl_1, nl_2, nl_3, nl_4, nl_5, nl_6, nl_7, nl_8, nl_9, nl_10, nl_11, nl_12, nl_13, nl_14, nl_15, nl_16, nl_20, nl_21, nl_22, nl_23, nl_24, nl_25, nl_26, nl_27, nl_28, nl_29, nl_30, nl_31, nl_32, nl_40, nl_41, nl_42, nl_43, nl_45, nl_47, nl_48, nl_50, nl_57, nl_59, nl_60, nl_61, nl_62, nl_63, nl_64, nl_91, nl_93, nl_94, nl_97, nl_98, nl_100, nl_110, nl_122, nl_130, nl_144, nl_160, nl_240, nl_241, nl_255, nl_256, nl_400, nl_800, nl_900, nl_999, nl_1000, nl_1001, nl_1024, nl_1103, nl_1928, nl_4321, nl_5560, nl_12345, nl_1000000, nl_1000003, nl_252645135, nl_858993459, nl_1431655765, nl_1000000000, nI_add, pk_mul, n_sub, n_neg, n_cl, leT, leF, ltT, ltF, eqT, eqF, kbT, s_II, s_In, s_IJ, s_IA, s_IL, s_IR, s_IC, s_JI, s_JJ, s_Jn, s_JA, s_JL, s_JR, s_JC, s_AI, s_AJ, s_AA, s_An, s_AL, s_AR, s_AC, s_LI, s_LJ, s_LA, s_LL, s_Ln, s_LR, s_LC, e_debts, h1]
  | succ m ih =>
    intro f d U hd hf hF hp
    obtain ⟨f, rfl⟩ : ∃ g, f = g + 1 := ⟨f - 1, by omega⟩
    have hdn : d < nD r := by omega
    have h1 : gA U 53 1 = nI (nD r) := by rw [hp 1, if_neg (by omega)]; exact w.r1
    have e3 : gA U 53 (14 + 5 * d + 0) = nI (dOw r d) := by rw [hp _, if_neg (by omega)]; exact (w.ow hdn).1
    have e4 : gA U 53 (14 + 5 * d + 1) = nI (dCr r d) := by rw [hp _, if_neg (by omega)]; exact (w.cr hdn).1
    have e6 : gA U 53 (14 + 5 * d + 3) = nI (dHa r d) := by rw [hp _, if_neg (by omega)]; exact (w.ha hdn).1
    have o8 := (w.ow hdn).2
    have c8 := (w.cr hdn).2
    by_cases c : hit r k d = true
    · have e1 : f_X12_funeral_22 (f + 1) (nI k) (nI (sm (bGo r k) d)) (nI d) U = f_X12_funeral_22 f (nI k) (nI (sm (bGo r k) (d + 1))) (nI (d + 1)) (sA U 53 (14 + 5 * d + 3) (nI 0)) := by
        have es : sm (bGo r k) (d + 1) = sm (bGo r k) d + dHa r d := by
          show sm (bGo r k) d + bGo r k d = _
          unfold bGo
          rw [if_pos c]
        rw [f_X12_funeral_22, es]
        by_cases q : dOw r d = k
        · simp (disch := omega) only [k_let, Option.bind_some, ↓reduceIte, eq_self, true_or, or_true, n01_0, n01_1, kb_or, kb_0T, kb_0F, vn_0, vn_1, vn_k, nl_0, nl_1, nl_2, nl_3, nl_4, nl_5, nl_6, nl_7, nl_8, nl_9, nl_10, nl_11, nl_12, nl_13, nl_14, nl_15, nl_16, nl_20, nl_21, nl_22, nl_23, nl_24, nl_25, nl_26, nl_27, nl_28, nl_29, nl_30, nl_31, nl_32, nl_40, nl_41, nl_42, nl_43, nl_45, nl_47, nl_48, nl_50, nl_57, nl_59, nl_60, nl_61, nl_62, nl_63, nl_64, nl_91, nl_93, nl_94, nl_97, nl_98, nl_100, nl_110, nl_122, nl_130, nl_144, nl_160, nl_240, nl_241, nl_255, nl_256, nl_400, nl_800, nl_900, nl_999, nl_1000, nl_1001, nl_1024, nl_1103, nl_1928, nl_4321, nl_5560, nl_12345, nl_1000000, nl_1000003, nl_252645135, nl_858993459, nl_1431655765, nl_1000000000, nI_add, pk_mul, n_sub, n_neg, n_cl, leT, leF, ltT, ltF, eqT, eqF, kbT, s_II, s_In, s_IJ, s_IA, s_IL, s_IR, s_IC, s_JI, s_JJ, s_Jn, s_JA, s_JL, s_JR, s_JC, s_AI, s_AJ, s_AA, s_An, s_AL, s_AR, s_AC, s_LI, s_LJ, s_LA, s_LL, s_Ln, s_LR, s_LC, f_X12_funeral_50, f_X12_funeral_73, e_debts, h1, e_ofDebt, e3, e6]
        · have q2 : dCr r d = k := by
            unfold hit at c
            rw [Bool.or_eq_true, decide_eq_true_eq, decide_eq_true_eq] at c
            exact c.resolve_left q
          simp (disch := omega) only [k_let, Option.bind_some, ↓reduceIte, eq_self, true_or, or_true, n01_0, n01_1, kb_or, kb_0T, kb_0F, vn_0, vn_1, vn_k, nl_0, nl_1, nl_2, nl_3, nl_4, nl_5, nl_6, nl_7, nl_8, nl_9, nl_10, nl_11, nl_12, nl_13, nl_14, nl_15, nl_16, nl_20, nl_21, nl_22, nl_23, nl_24, nl_25, nl_26, nl_27, nl_28, nl_29, nl_30, nl_31, nl_32, nl_40, nl_41, nl_42, nl_43, nl_45, nl_47, nl_48, nl_50, nl_57, nl_59, nl_60, nl_61, nl_62, nl_63, nl_64, nl_91, nl_93, nl_94, nl_97, nl_98, nl_100, nl_110, nl_122, nl_130, nl_144, nl_160, nl_240, nl_241, nl_255, nl_256, nl_400, nl_800, nl_900, nl_999, nl_1000, nl_1001, nl_1024, nl_1103, nl_1928, nl_4321, nl_5560, nl_12345, nl_1000000, nl_1000003, nl_252645135, nl_858993459, nl_1431655765, nl_1000000000, nI_add, pk_mul, n_sub, n_neg, n_cl, leT, leF, ltT, ltF, eqT, eqF, kbT, s_II, s_In, s_IJ, s_IA, s_IL, s_IR, s_IC, s_JI, s_JJ, s_Jn, s_JA, s_JL, s_JR, s_JC, s_AI, s_AJ, s_AA, s_An, s_AL, s_AR, s_AC, s_LI, s_LJ, s_LA, s_LL, s_Ln, s_LR, s_LC, f_X12_funeral_50, f_X12_funeral_73, e_debts, h1, e_ofDebt, e3, e4, e6]
      rw [e1]
      refine ih f (d + 1) _ (by omega) (by omega) (hF.sA rfl _ _) (fun i => ?_)
      rw [s_AA, u_a]
      by_cases q : i = 14 + 5 * d + 3
      · rw [if_pos q, if_pos (by omega)]
        unfold bHa
        rw [q, show (14 + 5 * d + 3 - 17) / 5 = d by omega, if_pos c]
      · rw [if_neg q, hp i]
        by_cases z : 14 ≤ i ∧ i < 14 + 5 * d ∧ i % 5 = 2
        · rw [if_pos z, if_pos (by omega)]
        · rw [if_neg z, if_neg (by omega)]
    · have e1 : f_X12_funeral_22 (f + 1) (nI k) (nI (sm (bGo r k) d)) (nI d) U = f_X12_funeral_22 f (nI k) (nI (sm (bGo r k) (d + 1))) (nI (d + 1)) U := by
        have es : sm (bGo r k) (d + 1) = sm (bGo r k) d := by
          show sm (bGo r k) d + bGo r k d = _
          unfold bGo
          rw [if_neg c]; rfl
        have q : dOw r d ≠ k ∧ dCr r d ≠ k := by
          unfold hit at c
          rw [Bool.or_eq_true, decide_eq_true_eq, decide_eq_true_eq] at c
          exact ⟨fun e => c (Or.inl e), fun e => c (Or.inr e)⟩
        have q1 := q.1
        have q2 := q.2
        rw [f_X12_funeral_22, es]
        simp (disch := omega) only [k_let, Option.bind_some, ↓reduceIte, eq_self, true_or, or_true, n01_0, n01_1, kb_or, kb_0T, kb_0F, vn_0, vn_1, vn_k, nl_0, nl_1, nl_2, nl_3, nl_4, nl_5, nl_6, nl_7, nl_8, nl_9, nl_10, nl_11, nl_12, nl_13, nl_14, nl_15, nl_16, nl_20, nl_21, nl_22, nl_23, nl_24, nl_25, nl_26, nl_27, nl_28, nl_29, nl_30, nl_31, nl_32, nl_40, nl_41, nl_42, nl_43, nl_45, nl_47, nl_48, nl_50, nl_57, nl_59, nl_60, nl_61, nl_62, nl_63, nl_64, nl_91, nl_93, nl_94, nl_97, nl_98, nl_100, nl_110, nl_122, nl_130, nl_144, nl_160, nl_240, nl_241, nl_255, nl_256, nl_400, nl_800, nl_900, nl_999, nl_1000, nl_1001, nl_1024, nl_1103, nl_1928, nl_4321, nl_5560, nl_12345, nl_1000000, nl_1000003, nl_252645135, nl_858993459, nl_1431655765, nl_1000000000, nI_add, pk_mul, n_sub, n_neg, n_cl, leT, leF, ltT, ltF, eqT, eqF, kbT, s_II, s_In, s_IJ, s_IA, s_IL, s_IR, s_IC, s_JI, s_JJ, s_Jn, s_JA, s_JL, s_JR, s_JC, s_AI, s_AJ, s_AA, s_An, s_AL, s_AR, s_AC, s_LI, s_LJ, s_LA, s_LL, s_Ln, s_LR, s_LC, f_X12_funeral_50, f_X12_funeral_73, e_debts, h1, e_ofDebt, e3, e4]
      rw [e1]
      refine ih f (d + 1) _ (by omega) (by omega) hF (fun i => ?_)
      rw [hp i]
      by_cases z : 14 ≤ i ∧ i < 14 + 5 * d ∧ i % 5 = 2
      · rw [if_pos z, if_pos (by omega)]
      · rw [if_neg z]
        by_cases q : i = 14 + 5 * d + 3
        · rw [if_pos (by omega)]
          unfold bHa
          rw [q, show (14 + 5 * d + 3 - 17) / 5 = d by omega, if_neg c]
          exact (w.ha hdn).1
        · rw [if_neg (by omega)]
/-- the ends of a pair whose village is swept last -/
theorem pr_sw {r : Nat → Int32} {S T1 V T2 : St} {h : Nat → Nat} (hv : Iv r S) (hh : ∀ d, d < nD r → h d < 10) (c : CSw r h S T1) (fV : Fr scI scJ (53 :: scA) scL (sI T1 32 (nI 0)) V) (fT : Fr [] [] [53] [] V T2) (m : MSw r h (gA T2 53)) : Inv (sI T2 34 (nI 0)) := by
  have f1 : Fvl S V := ((cl_32 c).sI (k := 32) rfl _).trans (fV.mono rfl rfl rfl rfl)
  have f : Fvl S (sI T2 34 (nI 0)) := (f1.trans (fT.mono rfl rfl rfl rfl)).sI (k := 34) rfl _
  refine inv_sw hv c (T := sI T2 34 (nI 0)) m hh f (fun i hi => ?_) (fun j hj => ?_) ?_ ?_
  · rw [s_In (by omega), fT.1 i (by simp), fV.1 i (scI_8 (by omega)), s_In (by omega)]
  · rw [s_IA, fT.2.2.1 j (by simp; omega), fV.2.2.1 j (fun q => by
      rcases List.mem_cons.mp q with q | q
      · omega
      · exact scA_15 (by omega) q), s_IA]
  · rw [s_II, s_In (by decide), fT.I rfl, fV.I rfl, s_II]
  · unfold Rf
    rw [s_IA, s_IA, fT.A (k := 50) rfl, fT.A (k := 52) rfl, fV.A (k := 50) rfl, fV.A (k := 52) rfl, s_IA, s_IA, c.1.A (k := 50) rfl, c.1.A (k := 52) rfl]
    exact hv.1.2.2.2.1
theorem e_bury {r : Nat → Int32} {S : St} (hv : Iv r S) {k : Nat} (hk : k < 8) : ∃ V, f_X1_bury (nI k) S = (f_X1_dropPlayed V).bind (fun q => some (nI (sm (bGo r k) (nD r)), q)) ∧ Fr [] [] [6] [] S V ∧ ∀ e, e < nD r → gA V 6 e = nI (bHa r k e) := by
  have h16 := hv.wf.n16
  obtain ⟨U, a1, a2, a3⟩ := l_bury hv hk (nD r) FU 0 S (by omega) (FU_ge (by omega)) (Fr.refl _) (fun e he => by rw [if_neg (by omega)]; exact (hv.c.C he).2.2.2.1)
  rw [show sm (bGo r k) 0 = 0 from rfl] at a1
  exact ⟨U, by unfold f_X1_bury; simp only [nl_0, nl_1, nl_2, nl_3, nl_4, nl_5, nl_6, nl_7, nl_8, nl_9, nl_10, nl_11, nl_12, nl_13, nl_14, nl_15, nl_16, nl_20, nl_21, nl_22, nl_23, nl_24, nl_25, nl_26, nl_27, nl_28, nl_29, nl_30, nl_31, nl_32, nl_40, nl_41, nl_42, nl_43, nl_45, nl_47, nl_48, nl_50, nl_57, nl_59, nl_60, nl_61, nl_62, nl_63, nl_64, nl_91, nl_93, nl_94, nl_97, nl_98, nl_100, nl_110, nl_122, nl_130, nl_144, nl_160, nl_240, nl_241, nl_255, nl_256, nl_400, nl_800, nl_900, nl_999, nl_1000, nl_1001, nl_1024, nl_1103, nl_1928, nl_4321, nl_5560, nl_12345, nl_1000000, nl_1000003, nl_252645135, nl_858993459, nl_1431655765, nl_1000000000]; exact a1, a2, a3⟩
theorem e_funeral {r : Nat → Int32} (w : Wf r) {k : Nat} (hk : k < 8) {S : St} (hS : gA S 53 = r) : ∃ V, f_X12_funeral_22 FU (nI k) (nI 0) (nI 0) S = (f_X12_sweep V).bind (fun q => (f_X12_tell (nI (sm (bGo r k) (nD r))) q).bind fun q85 => some (q85.1, q85.2)) ∧ Fr [] [] [53] [] S V ∧ ∀ i, gA V 53 i = if 14 ≤ i ∧ i < 14 + 5 * nD r ∧ i % 5 = 2 then nI (bHa r k ((i - 17) / 5)) else r i := by
  have h16 := w.n16
  obtain ⟨V, b1, b2, b3⟩ := l_funeral w hk hS (nD r) FU 0 S (by omega) (FU_ge (by omega)) (Fr.refl _) (fun i => by rw [if_neg (by omega), hS])
  rw [show sm (bGo r k) 0 = 0 from rfl] at b1
  exact ⟨V, b1, b2, b3⟩
theorem p_funeral (x : Int32) : Pr (f_X11_funeral x) (f_X12_funeral x) := by
  intro S h
  have hv := Iv.of h
  generalize hr : gA S 53 = r at hv
  have h16 := hv.wf.n16
  have hw := hv.wf
  unfold f_X11_funeral f_X12_funeral
  by_cases c : 0 ≤ x.toInt ∧ x.toInt ≤ 7
  · obtain ⟨k, rfl, hk, -⟩ := rng_n (x := x) (n := 8) (by omega)
    have hh : ∀ d, d < nD r → bHa r k d < 10 := fun d hd => by
      have := (hw.ha hd).2.1
      unfold bHa
      by_cases q : hit r k d = true
      · rw [if_pos q]; omega
      · rw [if_neg q]; omega
    have hb := bGo_le hw k (m := nD r) (Nat.le_refl _)
    obtain ⟨U, a1, a2, a3⟩ := e_bury hv hk
    obtain ⟨T1, t1, t2⟩ := c_sweep (U := U) (h := bHa r k) hv (a2.mono rfl rfl rfl rfl) a3 hh
    have e53 : gA (sI (sI T1 32 (nI 0)) 33 (nI 0)) 53 = r := (t2.1.A (k := 53) rfl).trans hr
    obtain ⟨V, b1, b2, b3⟩ := e_funeral hw hk (S := sI (sI T1 32 (nI 0)) 33 (nI 0)) e53
    obtain ⟨T2, u1, u2, u3⟩ := m_sweep (V := V) (h := bHa r k) hw (fun e he => by
      rw [b3, if_pos (by omega), show (14 + 5 * e + 3 - 17) / 5 = e by omega]) (fun i hi => by
      rw [b3, if_neg (fun q => hi ((i - 17) / 5) (by omega) (by omega))]) hh
    rw [n_ti (by omega)] at c
    refine ⟨nI (sm (bGo r k) (nD r)), sI T1 32 (nI 0), sI T2 34 (nI 0), ?_, ?_, pr_sw hv hh t2 (((Fr.refl _).sI (k := 33) rfl _).trans (b2.mono rfl rfl rfl rfl)) u2 u3⟩
    · simp (disch := omega) only [k_let, Option.bind_some, ↓reduceIte, eq_self, true_or, or_true, n01_0, n01_1, kb_or, kb_0T, kb_0F, vn_0, vn_1, vn_k, nl_0, nl_1, nl_2, nl_3, nl_4, nl_5, nl_6, nl_7, nl_8, nl_9, nl_10, nl_11, nl_12, nl_13, nl_14, nl_15, nl_16, nl_20, nl_21, nl_22, nl_23, nl_24, nl_25, nl_26, nl_27, nl_28, nl_29, nl_30, nl_31, nl_32, nl_40, nl_41, nl_42, nl_43, nl_45, nl_47, nl_48, nl_50, nl_57, nl_59, nl_60, nl_61, nl_62, nl_63, nl_64, nl_91, nl_93, nl_94, nl_97, nl_98, nl_100, nl_110, nl_122, nl_130, nl_144, nl_160, nl_240, nl_241, nl_255, nl_256, nl_400, nl_800, nl_900, nl_999, nl_1000, nl_1001, nl_1024, nl_1103, nl_1928, nl_4321, nl_5560, nl_12345, nl_1000000, nl_1000003, nl_252645135, nl_858993459, nl_1431655765, nl_1000000000, nI_add, pk_mul, n_sub, n_neg, n_cl, leT, leF, ltT, ltF, eqT, eqF, kbT, s_II, s_In, s_IJ, s_IA, s_IL, s_IR, s_IC, s_JI, s_JJ, s_Jn, s_JA, s_JL, s_JR, s_JC, s_AI, s_AJ, s_AA, s_An, s_AL, s_AR, s_AC, s_LI, s_LJ, s_LA, s_LL, s_Ln, s_LR, s_LC, zleT, zleF, zltT, zltF, zeqT, zeqF, nzleT, nzleF, nzltT, nzltF, nzeqT, nzeqF, znleT, znleF, znltT, znltF, zneqT, zneqF, z_add, z_sub, z_mul, z_neg, z_an, z_na, z_sn, z_ns, z_mn, z_nm, Nat.add_sub_cancel, decide_true, decide_false, and_self, e_done, e_ref1, e_ref2, e_ref3, e_ref5, e_ref6, e_tel1, e_tel2, e_tel3, e_tel5, e_tel6, e_telN, rfT_m, ll_0, ll_1, ll_2, ll_7, ll_8, ll_9, ll_10, ll_20, ll_23, ll_24, ll_26, ll_30, ll_32, ll_48, ll_96, ll_240, ll_256, ll_294, ll_498, ll_999, ll_1000, ll_1103, ll_1476, ll_12345, ll_14836, ll_65536, ll_1000000, ll_1000003, ll_1048576, ll_1000000000, n_ti, kB_t, e_dancer, decide_eq_true c, a1, t1]
    · simp (disch := omega) only [k_let, Option.bind_some, ↓reduceIte, eq_self, true_or, or_true, n01_0, n01_1, kb_or, kb_0T, kb_0F, vn_0, vn_1, vn_k, nl_0, nl_1, nl_2, nl_3, nl_4, nl_5, nl_6, nl_7, nl_8, nl_9, nl_10, nl_11, nl_12, nl_13, nl_14, nl_15, nl_16, nl_20, nl_21, nl_22, nl_23, nl_24, nl_25, nl_26, nl_27, nl_28, nl_29, nl_30, nl_31, nl_32, nl_40, nl_41, nl_42, nl_43, nl_45, nl_47, nl_48, nl_50, nl_57, nl_59, nl_60, nl_61, nl_62, nl_63, nl_64, nl_91, nl_93, nl_94, nl_97, nl_98, nl_100, nl_110, nl_122, nl_130, nl_144, nl_160, nl_240, nl_241, nl_255, nl_256, nl_400, nl_800, nl_900, nl_999, nl_1000, nl_1001, nl_1024, nl_1103, nl_1928, nl_4321, nl_5560, nl_12345, nl_1000000, nl_1000003, nl_252645135, nl_858993459, nl_1431655765, nl_1000000000, nI_add, pk_mul, n_sub, n_neg, n_cl, leT, leF, ltT, ltF, eqT, eqF, kbT, s_II, s_In, s_IJ, s_IA, s_IL, s_IR, s_IC, s_JI, s_JJ, s_Jn, s_JA, s_JL, s_JR, s_JC, s_AI, s_AJ, s_AA, s_An, s_AL, s_AR, s_AC, s_LI, s_LJ, s_LA, s_LL, s_Ln, s_LR, s_LC, zleT, zleF, zltT, zltF, zeqT, zeqF, nzleT, nzleF, nzltT, nzltF, nzeqT, nzeqF, znleT, znleF, znltT, znltF, zneqT, zneqF, z_add, z_sub, z_mul, z_neg, z_an, z_na, z_sn, z_ns, z_mn, z_nm, Nat.add_sub_cancel, decide_true, decide_false, and_self, e_done, e_ref1, e_ref2, e_ref3, e_ref5, e_ref6, e_tel1, e_tel2, e_tel3, e_tel5, e_tel6, e_telN, rfT_m, ll_0, ll_1, ll_2, ll_7, ll_8, ll_9, ll_10, ll_20, ll_23, ll_24, ll_26, ll_30, ll_32, ll_48, ll_96, ll_240, ll_256, ll_294, ll_498, ll_999, ll_1000, ll_1103, ll_1476, ll_12345, ll_14836, ll_65536, ll_1000000, ll_1000003, ll_1048576, ll_1000000000, n_ti, kB_t, e_m_dancer, decide_eq_true c, b1, u1]
  · refine ⟨iZ (-((1 : Nat) : Int)), rfT (iZ (-((1 : Nat) : Int))) 0 S, tlT (iZ (-((1 : Nat) : Int))) 1 (sI (rfT (iZ (-((1 : Nat) : Int))) 0 S) 33 (nI 0)), ?_, ?_, h.refuse _ 0 1 (by decide)⟩
    · simp (disch := omega) only [k_let, Option.bind_some, ↓reduceIte, eq_self, true_or, or_true, n01_0, n01_1, kb_or, kb_0T, kb_0F, vn_0, vn_1, vn_k, nl_0, nl_1, nl_2, nl_3, nl_4, nl_5, nl_6, nl_7, nl_8, nl_9, nl_10, nl_11, nl_12, nl_13, nl_14, nl_15, nl_16, nl_20, nl_21, nl_22, nl_23, nl_24, nl_25, nl_26, nl_27, nl_28, nl_29, nl_30, nl_31, nl_32, nl_40, nl_41, nl_42, nl_43, nl_45, nl_47, nl_48, nl_50, nl_57, nl_59, nl_60, nl_61, nl_62, nl_63, nl_64, nl_91, nl_93, nl_94, nl_97, nl_98, nl_100, nl_110, nl_122, nl_130, nl_144, nl_160, nl_240, nl_241, nl_255, nl_256, nl_400, nl_800, nl_900, nl_999, nl_1000, nl_1001, nl_1024, nl_1103, nl_1928, nl_4321, nl_5560, nl_12345, nl_1000000, nl_1000003, nl_252645135, nl_858993459, nl_1431655765, nl_1000000000, nI_add, pk_mul, n_sub, n_neg, n_cl, leT, leF, ltT, ltF, eqT, eqF, kbT, s_II, s_In, s_IJ, s_IA, s_IL, s_IR, s_IC, s_JI, s_JJ, s_Jn, s_JA, s_JL, s_JR, s_JC, s_AI, s_AJ, s_AA, s_An, s_AL, s_AR, s_AC, s_LI, s_LJ, s_LA, s_LL, s_Ln, s_LR, s_LC, zleT, zleF, zltT, zltF, zeqT, zeqF, nzleT, nzleF, nzltT, nzltF, nzeqT, nzeqF, znleT, znleF, znltT, znltF, zneqT, zneqF, z_add, z_sub, z_mul, z_neg, z_an, z_na, z_sn, z_ns, z_mn, z_nm, Nat.add_sub_cancel, decide_true, decide_false, and_self, e_done, e_ref1, e_ref2, e_ref3, e_ref5, e_ref6, e_tel1, e_tel2, e_tel3, e_tel5, e_tel6, e_telN, rfT_m, ll_0, ll_1, ll_2, ll_7, ll_8, ll_9, ll_10, ll_20, ll_23, ll_24, ll_26, ll_30, ll_32, ll_48, ll_96, ll_240, ll_256, ll_294, ll_498, ll_999, ll_1000, ll_1103, ll_1476, ll_12345, ll_14836, ll_65536, ll_1000000, ll_1000003, ll_1048576, ll_1000000000, n_ti, kB_t, e_dancer, decide_eq_false c]
    · simp (disch := omega) only [k_let, Option.bind_some, ↓reduceIte, eq_self, true_or, or_true, n01_0, n01_1, kb_or, kb_0T, kb_0F, vn_0, vn_1, vn_k, nl_0, nl_1, nl_2, nl_3, nl_4, nl_5, nl_6, nl_7, nl_8, nl_9, nl_10, nl_11, nl_12, nl_13, nl_14, nl_15, nl_16, nl_20, nl_21, nl_22, nl_23, nl_24, nl_25, nl_26, nl_27, nl_28, nl_29, nl_30, nl_31, nl_32, nl_40, nl_41, nl_42, nl_43, nl_45, nl_47, nl_48, nl_50, nl_57, nl_59, nl_60, nl_61, nl_62, nl_63, nl_64, nl_91, nl_93, nl_94, nl_97, nl_98, nl_100, nl_110, nl_122, nl_130, nl_144, nl_160, nl_240, nl_241, nl_255, nl_256, nl_400, nl_800, nl_900, nl_999, nl_1000, nl_1001, nl_1024, nl_1103, nl_1928, nl_4321, nl_5560, nl_12345, nl_1000000, nl_1000003, nl_252645135, nl_858993459, nl_1431655765, nl_1000000000, nI_add, pk_mul, n_sub, n_neg, n_cl, leT, leF, ltT, ltF, eqT, eqF, kbT, s_II, s_In, s_IJ, s_IA, s_IL, s_IR, s_IC, s_JI, s_JJ, s_Jn, s_JA, s_JL, s_JR, s_JC, s_AI, s_AJ, s_AA, s_An, s_AL, s_AR, s_AC, s_LI, s_LJ, s_LA, s_LL, s_Ln, s_LR, s_LC, zleT, zleF, zltT, zltF, zeqT, zeqF, nzleT, nzleF, nzltT, nzltF, nzeqT, nzeqF, znleT, znleF, znltT, znltF, zneqT, zneqF, z_add, z_sub, z_mul, z_neg, z_an, z_na, z_sn, z_ns, z_mn, z_nm, Nat.add_sub_cancel, decide_true, decide_false, and_self, e_done, e_ref1, e_ref2, e_ref3, e_ref5, e_ref6, e_tel1, e_tel2, e_tel3, e_tel5, e_tel6, e_telN, rfT_m, ll_0, ll_1, ll_2, ll_7, ll_8, ll_9, ll_10, ll_20, ll_23, ll_24, ll_26, ll_30, ll_32, ll_48, ll_96, ll_240, ll_256, ll_294, ll_498, ll_999, ll_1000, ll_1103, ll_1476, ll_12345, ll_14836, ll_65536, ll_1000000, ll_1000003, ll_1048576, ll_1000000000, n_ti, kB_t, e_m_dancer, decide_eq_false c]
