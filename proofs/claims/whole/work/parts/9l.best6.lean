/-! part 9l: best: all owers joined -/
theorem l_clear : ∀ (k f i b : Nat) (U : St), i + k = b → b ≤ 1928 → k < f → ∃ W, f_X2_clear_18 f (nI b) (nI i) U = some W ∧ Fr [] [] [] [33, 34] U W ∧ (∀ j, i ≤ j → j < b → gL W 33 j = lZ 0 ∧ gL W 34 j = lZ ((0 : Nat) : Int)) ∧ ∀ j, j < i → gL W 33 j = gL U 33 j ∧ gL W 34 j = gL U 34 j := by
  intro k
  induction k with
  | zero =>
    intro f i b U hi hb hf
    obtain ⟨f, rfl⟩ : ∃ g, f = g + 1 := ⟨f - 1, by omega⟩
    refine ⟨U, ?_, Fr.refl U, fun j h1 h2 => by omega, fun j _ => ⟨rfl, rfl⟩⟩
    rw [f_X2_clear_18]
    simp (disch := omega) only [k_let, Option.bind_some, ↓reduceIte, eq_self, true_or, or_true, n01_0, n01_1, kb_or, kb_0T, kb_0F, vn_0, vn_1, vn_k, nl_0, nl_1, nl_2, nl_3, nl_4, nl_5, nl_6, nl_7, nl_8, nl_9, nl_10, nl_11, nl_12, nl_13, nl_14, nl_15, nl_16, nl_20, nl_21, nl_22, nl_23, nl_24, nl_25, nl_26, nl_27, nl_28, nl_29, nl_30, nl_31, nl_32, nl_40, nl_41, nl_42, nl_43, nl_45, nl_47, nl_48, nl_50, nl_57, nl_59, nl_60, nl_61, nl_62, nl_63, nl_64, nl_91, nl_93, nl_94, nl_97, nl_98, nl_100, nl_110, nl_122, nl_130, nl_144, nl_160, nl_240, nl_241, nl_255, nl_256, nl_400, nl_800, nl_900, nl_999, nl_1000, nl_1001, nl_1024, nl_1103, nl_1928, nl_4321, nl_5560, nl_12345, nl_1000000, nl_1000003, nl_252645135, nl_858993459, nl_1431655765, nl_1000000000, nI_add, pk_mul, n_sub, n_neg, n_cl, leT, leF, ltT, ltF, eqT, eqF, kbT, s_II, s_In, s_IJ, s_IA, s_IL, s_IR, s_IC, s_JI, s_JJ, s_Jn, s_JA, s_JL, s_JR, s_JC, s_AI, s_AJ, s_AA, s_An, s_AL, s_AR, s_AC, s_LI, s_LJ, s_LA, s_LL, s_Ln, s_LR, s_LC]
  | succ k ih =>
    intro f i b U hi hb hf
    obtain ⟨f, rfl⟩ : ∃ g, f = g + 1 := ⟨f - 1, by omega⟩
    obtain ⟨W, w1, w2, w3, w4⟩ := ih f (i + 1) b (sL (sL U 33 i (lZ 0)) 34 i (lZ 0)) (by omega) hb (by omega)
    refine ⟨W, ?_, (((Fr.refl U).sL rfl _ _).sL rfl _ _).trans w2, fun j h1 h2 => ?_, fun j hj => ?_⟩
    · rw [← w1, f_X2_clear_18]
      simp (disch := omega) only [k_let, Option.bind_some, ↓reduceIte, eq_self, true_or, or_true, n01_0, n01_1, kb_or, kb_0T, kb_0F, vn_0, vn_1, vn_k, nl_0, nl_1, nl_2, nl_3, nl_4, nl_5, nl_6, nl_7, nl_8, nl_9, nl_10, nl_11, nl_12, nl_13, nl_14, nl_15, nl_16, nl_20, nl_21, nl_22, nl_23, nl_24, nl_25, nl_26, nl_27, nl_28, nl_29, nl_30, nl_31, nl_32, nl_40, nl_41, nl_42, nl_43, nl_45, nl_47, nl_48, nl_50, nl_57, nl_59, nl_60, nl_61, nl_62, nl_63, nl_64, nl_91, nl_93, nl_94, nl_97, nl_98, nl_100, nl_110, nl_122, nl_130, nl_144, nl_160, nl_240, nl_241, nl_255, nl_256, nl_400, nl_800, nl_900, nl_999, nl_1000, nl_1001, nl_1024, nl_1103, nl_1928, nl_4321, nl_5560, nl_12345, nl_1000000, nl_1000003, nl_252645135, nl_858993459, nl_1431655765, nl_1000000000, nI_add, pk_mul, n_sub, n_neg, n_cl, leT, leF, ltT, ltF, eqT, eqF, kbT, s_II, s_In, s_IJ, s_IA, s_IL, s_IR, s_IC, s_JI, s_JJ, s_Jn, s_JA, s_JL, s_JR, s_JC, s_AI, s_AJ, s_AA, s_An, s_AL, s_AR, s_AC, s_LI, s_LJ, s_LA, s_LL, s_Ln, s_LR, s_LC, ll_0, ll_1, ll_2, ll_7, ll_8, ll_9, ll_10, ll_20, ll_23, ll_24, ll_26, ll_30, ll_32, ll_48, ll_96, ll_240, ll_256, ll_294, ll_498, ll_999, ll_1000, ll_1103, ll_1476, ll_12345, ll_14836, ll_65536, ll_1000000, ll_1000003, ll_1048576, ll_1000000000]
    · by_cases q : j = i
      · obtain ⟨a, b⟩ := w4 j (by omega)
        rw [a, b, s_Ln (by decide), s_LL, s_LL, u_La, u_La, if_pos q, if_pos q]
        exact ⟨rfl, rfl⟩
      · exact w3 j (by omega) h2
    · obtain ⟨a, b⟩ := w4 j (by omega)
      rw [a, b, s_Ln (by decide), s_LL, s_LL, u_La, u_La, if_neg (by omega), if_neg (by omega), s_Ln (by decide)]
      exact ⟨rfl, rfl⟩
theorem Bs.zero {r : Nat → Int32} {V : Nat → Vd} {h : Nat} {pl : Nat → Bool} {en : Bool} {L m : Nat} : Mx r V (Bs r V h pl en 0 L m) 0 0 := by
  have eF : ∀ {c F}, Bs r V h pl en 0 L m c F → F = (fun _ => false) ∧ ∀ e, c e = 0 := fun {c F} q => by
    have f : F = fun _ => false := by
      funext j
      cases z : F j
      · rfl
      · have := (q.1 j z).1; omega
    refine ⟨f, fun e => ?_⟩
    have := q.2.2.1 e
    rw [f] at this
    have z : (if (fun _ : Nat => false) (dOw r e) = true then cap r V h e else 0) = 0 := if_neg Bool.false_ne_true
    omega
  have e0 : ∀ {c : Nat → Nat}, (∀ e, c e = 0) → gv r V c (fun _ => false) = 0 ∧ dg r c = 0 := fun {c} q => by
    have a : wo r V c = 0 := sm_0 (fun d _ => by rw [q d, Nat.zero_mul])
    have b : mi r c = 0 := mi_0 q
    have d : cs (fun _ => false) = 0 := by decide
    refine ⟨?_, sm_0 (fun d _ => by rw [q d, Nat.zero_mul])⟩
    unfold gv
    rw [a, b, d]; rfl
  refine ⟨⟨fun _ => 0, fun _ => false, ⟨fun j hj => absurd hj Bool.false_ne_true, ?_, fun e => Nat.zero_le _, ?_⟩, (e0 (fun _ => rfl)).1, (e0 (fun _ => rfl)).2⟩, fun c F q => ?_⟩
  · refine Or.inr ?_
    have : pc16 (bs (fun _ => false) 8) = 0 := by decide
    rw [this]; exact Nat.zero_le _
  · rw [mi_0 (fun _ => rfl)]; exact Nat.zero_le _
  · obtain ⟨a, b⟩ := eF q
    rw [a]
    obtain ⟨c1, c2⟩ := e0 b
    rw [c1, c2]
    exact Or.inr ⟨rfl, Nat.le_refl _⟩
theorem pc_0 : ∀ s, s < 256 → pc16 s ≤ 0 → s = 0 := by decide +kernel
theorem Bs.lay0 {r : Nat → Int32} {V : Nat → Vd} {h : Nat} {pl : Nat → Bool} {o m : Nat} (ho : o < 8) (c : Nat → Nat) (F : Nat → Bool) : Bs r V h pl false o 0 m c F ↔ Bs r V h pl false (o + 1) 0 m c F := by
  constructor
  · rintro ⟨a, b⟩
    exact ⟨fun j hj => ⟨by have := (a j hj).1; omega, (a j hj).2⟩, b⟩
  · rintro ⟨a, b, d⟩
    refine ⟨fun j hj => ⟨?_, (a j hj).2⟩, b, d⟩
    have := (a j hj).1
    by_cases q : j = o
    · rw [q] at hj
      rcases b with z | z
      · exact absurd z (by decide)
      · have z0 := pc_0 _ (bs_256 F) z
        have t : (bs F 8).testBit o = true := by rw [bs_tb, hj, decide_eq_true ho]; rfl
        rw [z0, Nat.zero_testBit] at t
        exact absurd t (by decide)
    · omega
/-- the tables of the layers, when the owers below o have been joined to layers above k, those below o to all -/
def Ly (r : Nat → Int32) (V : Nat → Vd) (h : Nat) (pl : Nat → Bool) (en : Bool) (top most : Nat) (U : St) (o k : Nat) : Prop := ∀ L, L ≤ top → ∀ m, m ≤ most → En r V U 33 34 (L * 241 + m) (Bs r V h pl en (if k < L then o + 1 else o) L m)
theorem l_171 {r : Nat → Int32} {V : Nat → Vd} {S : St} (hQ : Qc r V S) (hP : Pl S) {h o most top : Nat} {pl : Nat → Bool} (hh : h < 8) (ho : o < 8) (hp : pl o = true) (hm : most ≤ 240) (ht : top ≤ 7) (h20 : gI S 20 = nI h) (h21 : gI S 21 = nI most) (k150 : Int32 → Int32 → Int32 → Int32 → St → Option St) (x4 : Int32) : ∀ (k f : Nat) (U : St), k ≤ top → k < f → Fr [] [] [] [33, 34, 35, 36] S U → Ly r V h pl false top most U o k →
    ∃ W, f_X2_find_171 k150 f x4 (nI 0) (nI top) (nI o) (nI k) U = k150 x4 (nI 0) (nI top) (nI (o + 1)) W ∧ Fr [] [] [] [33, 34, 35, 36] S W ∧ ∀ L, L ≤ top → ∀ m, m ≤ most → En r V W 33 34 (L * 241 + m) (Bs r V h pl false (o + 1) L m) := by
  intro k
  induction k with
  | zero =>
    intro f U hk hf hF hL
    obtain ⟨f, rfl⟩ : ∃ g, f = g + 1 := ⟨f - 1, by omega⟩
    refine ⟨U, ?_, hF, fun L hLt m hmm => ?_⟩
    · rw [f_X2_find_171]
      simp (disch := omega) only [k_let, Option.bind_some, ↓reduceIte, eq_self, true_or, or_true, n01_0, n01_1, kb_or, kb_0T, kb_0F, vn_0, vn_1, vn_k, nl_0, nl_1, nl_2, nl_3, nl_4, nl_5, nl_6, nl_7, nl_8, nl_9, nl_10, nl_11, nl_12, nl_13, nl_14, nl_15, nl_16, nl_20, nl_21, nl_22, nl_23, nl_24, nl_25, nl_26, nl_27, nl_28, nl_29, nl_30, nl_31, nl_32, nl_40, nl_41, nl_42, nl_43, nl_45, nl_47, nl_48, nl_50, nl_57, nl_59, nl_60, nl_61, nl_62, nl_63, nl_64, nl_91, nl_93, nl_94, nl_97, nl_98, nl_100, nl_110, nl_122, nl_130, nl_144, nl_160, nl_240, nl_241, nl_255, nl_256, nl_400, nl_800, nl_900, nl_999, nl_1000, nl_1001, nl_1024, nl_1103, nl_1928, nl_4321, nl_5560, nl_12345, nl_1000000, nl_1000003, nl_252645135, nl_858993459, nl_1431655765, nl_1000000000, nI_add, pk_mul, n_sub, n_neg, n_cl, leT, leF, ltT, ltF, eqT, eqF, kbT, s_II, s_In, s_IJ, s_IA, s_IL, s_IR, s_IC, s_JI, s_JJ, s_Jn, s_JA, s_JL, s_JR, s_JC, s_AI, s_AJ, s_AA, s_An, s_AL, s_AR, s_AC, s_LI, s_LJ, s_LA, s_LL, s_Ln, s_LR, s_LC, f_X2_find_183, f_X2_find_214]
    · have := hL L hLt m hmm
      by_cases q : 0 < L
      · rw [if_pos q] at this; exact this
      · rw [if_neg q] at this
        have : L = 0 := by omega
        subst this
        exact (hL 0 hLt m hmm).iff (fun c F => by rw [if_neg (Nat.lt_irrefl 0)]; exact Bs.lay0 ho c F)
  | succ k ih =>
    intro f U hk hf hF hL
    obtain ⟨f, rfl⟩ : ∃ g, f = g + 1 := ⟨f - 1, by omega⟩
    have hU := hQ.fr hF rfl rfl rfl rfl rfl
    have k20 : gI U 20 = nI h := (hF.I (k := 20) rfl).trans h20
    have k21 : gI U 21 = nI most := (hF.I (k := 21) rfl).trans h21
    have hPU : Pl U := fun d hd => by rw [hF.L (k := 37) rfl]; exact hP d hd
    obtain ⟨Y, y1, y2, y3, y4⟩ := e_joinO (A := Bs r V h pl false o k) (B := Bs r V h pl false o (k + 1)) hU hPU hh ho hm (show k ≤ 7 by omega) (show k + 1 ≤ 7 by omega) k20 k21 (fun m c F q => ⟨fun e => q.c9 hQ.1.1 e, q.o0.1, q.o0.2⟩) (fun m c F q e => q.c9 hQ.1.1 e) (fun m hmm => by
      have := hL k (by omega) m hmm
      rw [if_neg (by omega)] at this
      exact this) (fun m hmm => by
      have := hL (k + 1) hk m hmm
      rw [if_neg (by omega)] at this
      exact this)
    obtain ⟨W, w1, w2, w3⟩ := ih f Y (by omega) (by omega) (hF.trans y2) (fun L hLt m hmm => by
      by_cases q : L = k + 1
      · subst q
        rw [if_pos (Nat.lt_succ_self k)]
        exact (y4 m hmm).iff (fun c F => Bs.join ho hp (Or.inr rfl) c F)
      · have e : (if k < L then o + 1 else o) = if k + 1 < L then o + 1 else o := by
          by_cases z : k < L
          · rw [if_pos z, if_pos (by omega)]
          · rw [if_neg z, if_neg (by omega)]
        obtain ⟨a, b⟩ := y3 (L * 241 + m) (by omega)
        rw [e]
        exact (hL L hLt m hmm).fr a b)
    refine ⟨W, ?_, w2, w3⟩
    rw [← w1, f_X2_find_171]
    simp (disch := omega) only [k_let, Option.bind_some, ↓reduceIte, eq_self, true_or, or_true, n01_0, n01_1, kb_or, kb_0T, kb_0F, vn_0, vn_1, vn_k, nl_0, nl_1, nl_2, nl_3, nl_4, nl_5, nl_6, nl_7, nl_8, nl_9, nl_10, nl_11, nl_12, nl_13, nl_14, nl_15, nl_16, nl_20, nl_21, nl_22, nl_23, nl_24, nl_25, nl_26, nl_27, nl_28, nl_29, nl_30, nl_31, nl_32, nl_40, nl_41, nl_42, nl_43, nl_45, nl_47, nl_48, nl_50, nl_57, nl_59, nl_60, nl_61, nl_62, nl_63, nl_64, nl_91, nl_93, nl_94, nl_97, nl_98, nl_100, nl_110, nl_122, nl_130, nl_144, nl_160, nl_240, nl_241, nl_255, nl_256, nl_400, nl_800, nl_900, nl_999, nl_1000, nl_1001, nl_1024, nl_1103, nl_1928, nl_4321, nl_5560, nl_12345, nl_1000000, nl_1000003, nl_252645135, nl_858993459, nl_1431655765, nl_1000000000, nI_add, pk_mul, n_sub, n_neg, n_cl, leT, leF, ltT, ltF, eqT, eqF, kbT, s_II, s_In, s_IJ, s_IA, s_IL, s_IR, s_IC, s_JI, s_JJ, s_Jn, s_JA, s_JL, s_JR, s_JC, s_AI, s_AJ, s_AA, s_An, s_AL, s_AR, s_AC, s_LI, s_LJ, s_LA, s_LL, s_Ln, s_LR, s_LC, f_X2_find_183, f_X2_find_203, ↓b_of y1, n_dn, Nat.add_sub_cancel]
theorem l_171e {r : Nat → Int32} {V : Nat → Vd} {S : St} (hQ : Qc r V S) (hP : Pl S) {h o most : Nat} {pl : Nat → Bool} (hh : h < 8) (ho : o < 8) (hp : pl o = true) (hm : most ≤ 240) (h20 : gI S 20 = nI h) (h21 : gI S 21 = nI most) (k150 : Int32 → Int32 → Int32 → Int32 → St → Option St) (x4 : Int32) (f : Nat) (U : St) (hF : Fr [] [] [] [33, 34, 35, 36] S U) (hL : ∀ m, m ≤ most → En r V U 33 34 (0 * 241 + m) (Bs r V h pl true o 0 m)) :
    ∃ W, f_X2_find_171 k150 (f + 2) x4 (nI 1) (nI 0) (nI o) (nI 0) U = k150 x4 (nI 1) (nI 0) (nI (o + 1)) W ∧ Fr [] [] [] [33, 34, 35, 36] S W ∧ ∀ m, m ≤ most → En r V W 33 34 (0 * 241 + m) (Bs r V h pl true (o + 1) 0 m) := by
  have hU := hQ.fr hF rfl rfl rfl rfl rfl
  have k20 : gI U 20 = nI h := (hF.I (k := 20) rfl).trans h20
  have k21 : gI U 21 = nI most := (hF.I (k := 21) rfl).trans h21
  have hPU : Pl U := fun d hd => by rw [hF.L (k := 37) rfl]; exact hP d hd
  obtain ⟨Y, y1, y2, y3, y4⟩ := e_joinO (A := Bs r V h pl true o 0) (B := Bs r V h pl true o 0) hU hPU hh ho hm (show 0 ≤ 7 by omega) (show 0 ≤ 7 by omega) k20 k21 (fun m c F q => ⟨fun e => q.c9 hQ.1.1 e, q.o0.1, q.o0.2⟩) (fun m c F q e => q.c9 hQ.1.1 e) hL hL
  refine ⟨Y, ?_, hF.trans y2, fun m hmm => (y4 m hmm).iff (fun c F => Bs.join ho hp (Or.inl rfl) c F)⟩
  have n1 : nI 0 + iZ (-((1 : Nat) : Int)) = iZ (-((1 : Nat) : Int)) := rfl
  have n2 : (iZ (-((1 : Nat) : Int)) < nI 0) = True := eq_true (by decide)
  rw [f_X2_find_171]
  simp (disch := omega) only [k_let, Option.bind_some, ↓reduceIte, eq_self, true_or, or_true, n01_0, n01_1, kb_or, kb_0T, kb_0F, vn_0, vn_1, vn_k, nl_0, nl_1, nl_2, nl_3, nl_4, nl_5, nl_6, nl_7, nl_8, nl_9, nl_10, nl_11, nl_12, nl_13, nl_14, nl_15, nl_16, nl_20, nl_21, nl_22, nl_23, nl_24, nl_25, nl_26, nl_27, nl_28, nl_29, nl_30, nl_31, nl_32, nl_40, nl_41, nl_42, nl_43, nl_45, nl_47, nl_48, nl_50, nl_57, nl_59, nl_60, nl_61, nl_62, nl_63, nl_64, nl_91, nl_93, nl_94, nl_97, nl_98, nl_100, nl_110, nl_122, nl_130, nl_144, nl_160, nl_240, nl_241, nl_255, nl_256, nl_400, nl_800, nl_900, nl_999, nl_1000, nl_1001, nl_1024, nl_1103, nl_1928, nl_4321, nl_5560, nl_12345, nl_1000000, nl_1000003, nl_252645135, nl_858993459, nl_1431655765, nl_1000000000, nI_add, pk_mul, n_sub, n_neg, n_cl, leT, leF, ltT, ltF, eqT, eqF, kbT, s_II, s_In, s_IJ, s_IA, s_IL, s_IR, s_IC, s_JI, s_JJ, s_Jn, s_JA, s_JL, s_JR, s_JC, s_AI, s_AJ, s_AA, s_An, s_AL, s_AR, s_AC, s_LI, s_LJ, s_LA, s_LL, s_Ln, s_LR, s_LC, f_X2_find_183, f_X2_find_203, ↓b_of y1, n1]
  rw [f_X2_find_171]
  simp (disch := omega) only [k_let, Option.bind_some, ↓reduceIte, eq_self, true_or, or_true, n01_0, n01_1, kb_or, kb_0T, kb_0F, vn_0, vn_1, vn_k, nl_0, nl_1, nl_2, nl_3, nl_4, nl_5, nl_6, nl_7, nl_8, nl_9, nl_10, nl_11, nl_12, nl_13, nl_14, nl_15, nl_16, nl_20, nl_21, nl_22, nl_23, nl_24, nl_25, nl_26, nl_27, nl_28, nl_29, nl_30, nl_31, nl_32, nl_40, nl_41, nl_42, nl_43, nl_45, nl_47, nl_48, nl_50, nl_57, nl_59, nl_60, nl_61, nl_62, nl_63, nl_64, nl_91, nl_93, nl_94, nl_97, nl_98, nl_100, nl_110, nl_122, nl_130, nl_144, nl_160, nl_240, nl_241, nl_255, nl_256, nl_400, nl_800, nl_900, nl_999, nl_1000, nl_1001, nl_1024, nl_1103, nl_1928, nl_4321, nl_5560, nl_12345, nl_1000000, nl_1000003, nl_252645135, nl_858993459, nl_1431655765, nl_1000000000, nI_add, pk_mul, n_sub, n_neg, n_cl, leT, leF, ltT, ltF, eqT, eqF, kbT, s_II, s_In, s_IJ, s_IA, s_IL, s_IR, s_IC, s_JI, s_JJ, s_Jn, s_JA, s_JL, s_JR, s_JC, s_AI, s_AJ, s_AA, s_An, s_AL, s_AR, s_AC, s_LI, s_LJ, s_LA, s_LL, s_Ln, s_LR, s_LC, f_X2_find_183, f_X2_find_214, n2]
