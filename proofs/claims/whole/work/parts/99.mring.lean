/-! part 99: the reference finds the best ring; ring -/
theorem lv_all {ad : Nat → Nat} {a : Nat} (ha8 : a < 8) : ∀ L x, x + L = 7 → Lv ad a x := by
  intro L
  induction L with
  | zero => intro x hx; exact l_lv ha8 (fun h => absurd h (by omega))
  | succ L ih => intro x hx; exact l_lv ha8 (fun h => ih (x + 1) (by omega))
theorem e_goR {ad : Nat → Nat} {a : Nat} (ha8 : a < 8) {U : St} {P : Nat → (Nat → Nat) → Prop} (h71 : ∀ k, k < 8 → gA U 71 k = nI (ad k) ∧ ad k < 256) (hK : KpR P U) :
    ∃ W, f_X12_goRound (nI a) U = some W ∧ Fr [49, 50] [] [72, 73] [] U W ∧ KpR (fun n q => P n q ∨ (CyM (eAd ad) n q ∧ q 0 = a)) W := by
  have f1 : Fr [] [] [72] [] U (sA (sA U 72 0 (nI a)) 72 1 (nI a)) := ((Fr.refl U).sA rfl _ _).sA rfl _ _
  have p1 : ps (fun _ => a) 1 = 2 ^ a := Nat.zero_or _
  obtain ⟨k, W, k1, k2, k3, k4, k5⟩ := lv_all ha8 6 1 rfl (7 - a) a (fun _ => a) (sA (sA U 72 0 (nI a)) 72 1 (nI a)) P (Nat.le_refl _) (by omega) (by omega) rfl (fun i _ => ha8) (fun i j hi hj _ => by omega) (fun i h0 hi => absurd hi (by omega)) (fun i hi => absurd hi (by omega)) (Nat.le_refl _) (fun k hk => by rw [f1.A (k := 71) rfl]; exact h71 k hk) (fun i hi => by
      have : i = 0 := by omega
      subst this
      rw [s_AA, u_n (by decide), s_AA, u_s]) (by rw [s_AA, u_s]) (hK.fr f1 rfl rfl rfl)
  have kb : k ≤ 4793488 := Nat.le_trans k1 (Nat.le_trans (Nat.mul_le_mul_right _ (show 7 - a + 1 ≤ 8 by omega)) (by decide))
  have hF := FU_ge (m := 4793490) (by decide)
  obtain ⟨g, hg⟩ : ∃ g, FU = (g + 1) + k := ⟨FU - k - 1, by omega⟩
  have k2' := k2 (g + 1)
  rw [if_pos rfl, p1, ← hg] at k2'
  refine ⟨W, ?_, (f1.mono rfl rfl rfl rfl).trans k3, k5.iff (fun n q => ⟨?_, ?_⟩)⟩
  · have e : f_X12_goRound (nI a) U = f_X12_goRound_20 FU (nI a) (nI 1) (nI (2 ^ a)) (sA (sA U 72 0 (nI a)) 72 1 (nI a)) := by
      unfold f_X12_goRound
      simp (disch := omega) only [k_let, Option.bind_some, ↓reduceIte, eq_self, true_or, or_true, n01_0, n01_1, kb_or, kb_0T, kb_0F, vn_0, vn_1, vn_k, nl_0, nl_1, nl_2, nl_3, nl_4, nl_5, nl_6, nl_7, nl_8, nl_9, nl_10, nl_11, nl_12, nl_13, nl_14, nl_15, nl_16, nl_20, nl_21, nl_22, nl_23, nl_24, nl_25, nl_26, nl_27, nl_28, nl_29, nl_30, nl_31, nl_32, nl_40, nl_41, nl_42, nl_43, nl_45, nl_47, nl_48, nl_50, nl_57, nl_59, nl_60, nl_61, nl_62, nl_63, nl_64, nl_91, nl_93, nl_94, nl_97, nl_98, nl_100, nl_110, nl_122, nl_130, nl_144, nl_160, nl_240, nl_241, nl_255, nl_256, nl_400, nl_800, nl_900, nl_999, nl_1000, nl_1001, nl_1024, nl_1103, nl_1928, nl_4321, nl_5560, nl_12345, nl_1000000, nl_1000003, nl_252645135, nl_858993459, nl_1431655765, nl_1000000000, leT, leF, ltT, ltF, eqT, eqF, kbT, n_cl, n_shl1]
    rw [e, k2', f_X12_goRound_20]
    simp (disch := omega) only [k_let, Option.bind_some, ↓reduceIte, eq_self, true_or, or_true, n01_0, n01_1, kb_or, kb_0T, kb_0F, vn_0, vn_1, vn_k, nl_0, nl_1, nl_2, nl_3, nl_4, nl_5, nl_6, nl_7, nl_8, nl_9, nl_10, nl_11, nl_12, nl_13, nl_14, nl_15, nl_16, nl_20, nl_21, nl_22, nl_23, nl_24, nl_25, nl_26, nl_27, nl_28, nl_29, nl_30, nl_31, nl_32, nl_40, nl_41, nl_42, nl_43, nl_45, nl_47, nl_48, nl_50, nl_57, nl_59, nl_60, nl_61, nl_62, nl_63, nl_64, nl_91, nl_93, nl_94, nl_97, nl_98, nl_100, nl_110, nl_122, nl_130, nl_144, nl_160, nl_240, nl_241, nl_255, nl_256, nl_400, nl_800, nl_900, nl_999, nl_1000, nl_1001, nl_1024, nl_1103, nl_1928, nl_4321, nl_5560, nl_12345, nl_1000000, nl_1000003, nl_252645135, nl_858993459, nl_1431655765, nl_1000000000, leT, leF, ltT, ltF, eqT, eqF, kbT, Nat.sub_self]
  · rintro (z | z)
    · exact Or.inl z
    · exact Or.inr ⟨z.1, z.2.2.1 0 (by omega)⟩
  · rintro (z | ⟨z1, z2⟩)
    · exact Or.inl z
    · have h2 := z1.1.1
      refine Or.inr ⟨z1, by omega, fun i hi => by rw [show i = 0 by omega]; exact z2, ?_⟩
      have := z1.2 1 (by decide) (by omega)
      rw [z2] at this
      exact this
theorem l_m73 {ad : Nat → Nat} {S : St} (h71 : ∀ k, k < 8 → gA S 71 k = nI (ad k) ∧ ad k < 256) : ∀ (m f a : Nat) (U : St), a + m = 8 → m < f → Fr [49, 50] [] [72, 73] [] S U → KpR (fun n q => CyM (eAd ad) n q ∧ q 0 < a) U →
    ∃ W, f_X12_findRing_73 f (nI a) U = some W ∧ Fr [49, 50] [] [72, 73] [] S W ∧ KpR (CyM (eAd ad)) W := by
  intro m
  induction m with
  | zero =>
    intro f a U ha hf hF hK
    obtain ⟨f, rfl⟩ : ∃ g, f = g + 1 := ⟨f - 1, by omega⟩
    refine ⟨U, ?_, hF, hK.iff (fun n q => ⟨fun z => z.1, fun z => ⟨z, ?_⟩⟩)⟩
    · rw [f_X12_findRing_73]
      simp (disch := omega) only [k_let, Option.bind_some, ↓reduceIte, eq_self, true_or, or_true, n01_0, n01_1, kb_or, kb_0T, kb_0F, vn_0, vn_1, vn_k, nl_0, nl_1, nl_2, nl_3, nl_4, nl_5, nl_6, nl_7, nl_8, nl_9, nl_10, nl_11, nl_12, nl_13, nl_14, nl_15, nl_16, nl_20, nl_21, nl_22, nl_23, nl_24, nl_25, nl_26, nl_27, nl_28, nl_29, nl_30, nl_31, nl_32, nl_40, nl_41, nl_42, nl_43, nl_45, nl_47, nl_48, nl_50, nl_57, nl_59, nl_60, nl_61, nl_62, nl_63, nl_64, nl_91, nl_93, nl_94, nl_97, nl_98, nl_100, nl_110, nl_122, nl_130, nl_144, nl_160, nl_240, nl_241, nl_255, nl_256, nl_400, nl_800, nl_900, nl_999, nl_1000, nl_1001, nl_1024, nl_1103, nl_1928, nl_4321, nl_5560, nl_12345, nl_1000000, nl_1000003, nl_252645135, nl_858993459, nl_1431655765, nl_1000000000, nI_add, pk_mul, n_sub, n_neg, n_cl, leT, leF, ltT, ltF, eqT, eqF, kbT, s_II, s_In, s_IJ, s_IA, s_IL, s_IR, s_IC, s_JI, s_JJ, s_Jn, s_JA, s_JL, s_JR, s_JC, s_AI, s_AJ, s_AA, s_An, s_AL, s_AR, s_AC, s_LI, s_LJ, s_LA, s_LL, s_Ln, s_LR, s_LC]
    · have h2 := z.1.1
      have := z.1.2.1 0 (by omega)
      omega
  | succ m ih =>
    intro f a U ha hf hF hK
    obtain ⟨f, rfl⟩ : ∃ g, f = g + 1 := ⟨f - 1, by omega⟩
    obtain ⟨W, w1, w2, w3⟩ := e_goR (a := a) (by omega) (fun k hk => by rw [hF.A (k := 71) rfl]; exact h71 k hk) hK
    have hP : KpR (fun n q => CyM (eAd ad) n q ∧ q 0 < a + 1) W := by
      refine w3.iff (fun n q => ⟨?_, ?_⟩)
      · rintro (z | z)
        · exact ⟨z.1, by omega⟩
        · exact ⟨z.1, by omega⟩
      · rintro ⟨z1, z2⟩
        by_cases e : q 0 = a
        · exact Or.inr ⟨z1, e⟩
        · exact Or.inl ⟨z1, by omega⟩
    obtain ⟨Z, z1, z2, z3⟩ := ih f (a + 1) W (by omega) (by omega) (hF.trans w2) hP
    refine ⟨Z, ?_, z2, z3⟩
    rw [← z1, f_X12_findRing_73]
    simp (disch := omega) only [k_let, Option.bind_some, ↓reduceIte, eq_self, true_or, or_true, n01_0, n01_1, kb_or, kb_0T, kb_0F, vn_0, vn_1, vn_k, nl_0, nl_1, nl_2, nl_3, nl_4, nl_5, nl_6, nl_7, nl_8, nl_9, nl_10, nl_11, nl_12, nl_13, nl_14, nl_15, nl_16, nl_20, nl_21, nl_22, nl_23, nl_24, nl_25, nl_26, nl_27, nl_28, nl_29, nl_30, nl_31, nl_32, nl_40, nl_41, nl_42, nl_43, nl_45, nl_47, nl_48, nl_50, nl_57, nl_59, nl_60, nl_61, nl_62, nl_63, nl_64, nl_91, nl_93, nl_94, nl_97, nl_98, nl_100, nl_110, nl_122, nl_130, nl_144, nl_160, nl_240, nl_241, nl_255, nl_256, nl_400, nl_800, nl_900, nl_999, nl_1000, nl_1001, nl_1024, nl_1103, nl_1928, nl_4321, nl_5560, nl_12345, nl_1000000, nl_1000003, nl_252645135, nl_858993459, nl_1431655765, nl_1000000000, nI_add, pk_mul, n_sub, n_neg, n_cl, leT, leF, ltT, ltF, eqT, eqF, kbT, s_II, s_In, s_IJ, s_IA, s_IL, s_IR, s_IC, s_JI, s_JJ, s_Jn, s_JA, s_JL, s_JR, s_JC, s_AI, s_AJ, s_AA, s_An, s_AL, s_AR, s_AC, s_LI, s_LJ, s_LA, s_LL, s_Ln, s_LR, s_LC, ↓b_of w1]
theorem e_mfind {r : Nat → Int32} {V : Nat → Vd} {S : St} (h : Qm r V S) {t : Nat} (ht : t < 6) :
    ∃ W, f_X12_findRing (nI t) S = some W ∧ Fr [49, 50] [] [71, 72, 73] [] S W ∧ KpR (CyM (eAd (adN r V t))) W := by
  have f1 : Fr [49, 50] [] [71, 72, 73] [] S (sI (sI S 49 (nI 0)) 50 (nI 0)) := ((Fr.refl S).sI rfl _).sI rfl _
  obtain ⟨A, a1, a2, a3⟩ := l_m12 (h.fr f1 rfl rfl rfl rfl) ht 8 FU 0 (sI (sI S 49 (nI 0)) 50 (nI 0)) (by omega) (FU_ge (by omega)) (Fr.refl _) (fun k hk => absurd hk (Nat.not_lt_zero k))
  have k49 : gI A 49 = nI 0 := by rw [a2.I (k := 49) rfl, s_In (by decide), s_II]
  obtain ⟨W, w1, w2, w3⟩ := l_m73 (fun k hk => ⟨a3 k hk, bs_lt (edB r V t k) 8⟩) 8 FU 0 A (by omega) (FU_ge (by omega)) (Fr.refl _) (Or.inl ⟨k49, fun n p z => absurd z.2 (Nat.not_lt_zero _)⟩)
  refine ⟨W, ?_, f1.trans ((a2.mono rfl rfl rfl rfl : Fr [49, 50] [] [71, 72, 73] [] _ A).trans (w2.mono rfl rfl rfl rfl)), w3⟩
  rw [← w1, ← a1]
  rfl
/-- both have found the same -/
theorem e_same {E : Nat → Nat → Bool} (hE : ∀ a, E a a = false) {W : St} (h : KpR (CyM E) W) : (gI W 49 = nI 0 ∧ ∀ n p, ¬ CyM E n p) ∨ (∃ n p, Be E n p ∧ gI W 49 = nI n ∧ ∀ j, j < n → gA W 73 j = nI (p j)) := by
  rcases h with h | ⟨n, p, h1, h2, h3, h4, h5, h6, h7, h8⟩
  · exact Or.inl h
  · exact Or.inr ⟨n, p, ⟨h1, h8⟩, h5, h7⟩
theorem p_ring (x y : Int32) : Pr (f_X11_ring x y) (f_X12_ring x y) := by
  intro S h
  have hv := Iv.of h
  generalize hr : gA S 53 = r at hv
  have t6 := hv.wf.t6
  obtain ⟨V, hA⟩ := ask hv
  have hv2 := hv.fs (fs33 S)
  by_cases c : 0 ≤ x.toInt ∧ x.toInt < rN r 0
  · obtain ⟨t, rfl, ht, -⟩ := rng_n c
    have b0 := e_hasTune hv.c (nI t)
    rw [decide_eq_true c, kB_t] at b0
    obtain ⟨b, A, a1, a2, a3, a4, a5⟩ := e_cfind hA (Fr.refl S) (t := t) (by omega)
    have f33 : Fs S (sI A 33 (nI 0)) := a2.sI rfl _
    have b1 := e_m_isTune (hv.fs f33).r (nI t)
    rw [decide_eq_true c, kB_t] at b1
    obtain ⟨-, B, m1, m2, m3, m4⟩ := hA (sI A 33 (nI 0)) f33
    obtain ⟨C, n1, n2, n3⟩ := e_mfind m4 (t := t) (by omega)
    have fC : Fs S C := m3.trans (n2.mono rfl rfl rfl rfl)
    have irr := adN_irr (V := V) (t := t) hv.wf
    rcases a5 with ⟨rfl, n, p, p1, p2, p3⟩ | ⟨rfl, p1⟩
    · rcases e_same irr n3 with ⟨z1, z2⟩ | ⟨n', p', z1, z2, z3⟩
      · exact absurd p1.1 (z2 n p)
      · obtain ⟨e1, e2, e3⟩ := Be.uniq irr p1 z1
        subst e1
        have n8 := p1.1.1.n8
        have g2 := p1.1.1.1
        rw [kB_t] at a1
        by_cases cy : y = iZ (-((1 : Nat) : Int))
        · subst cy
          refine ⟨nI n, A, C, ?_, ?_, (hv.fs fC).1⟩
          · unfold f_X11_ring
            simp (disch := omega) only [k_let, Option.bind_some, ↓reduceIte, eq_self, true_or, or_true, n01_0, n01_1, kb_or, kb_0T, kb_0F, vn_0, vn_1, vn_k, nl_0, nl_1, nl_2, nl_3, nl_4, nl_5, nl_6, nl_7, nl_8, nl_9, nl_10, nl_11, nl_12, nl_13, nl_14, nl_15, nl_16, nl_20, nl_21, nl_22, nl_23, nl_24, nl_25, nl_26, nl_27, nl_28, nl_29, nl_30, nl_31, nl_32, nl_40, nl_41, nl_42, nl_43, nl_45, nl_47, nl_48, nl_50, nl_57, nl_59, nl_60, nl_61, nl_62, nl_63, nl_64, nl_91, nl_93, nl_94, nl_97, nl_98, nl_100, nl_110, nl_122, nl_130, nl_144, nl_160, nl_240, nl_241, nl_255, nl_256, nl_400, nl_800, nl_900, nl_999, nl_1000, nl_1001, nl_1024, nl_1103, nl_1928, nl_4321, nl_5560, nl_12345, nl_1000000, nl_1000003, nl_252645135, nl_858993459, nl_1431655765, nl_1000000000, nI_add, pk_mul, n_sub, n_neg, n_cl, leT, leF, ltT, ltF, eqT, eqF, kbT, s_II, s_In, s_IJ, s_IA, s_IL, s_IR, s_IC, s_JI, s_JJ, s_Jn, s_JA, s_JL, s_JR, s_JC, s_AI, s_AJ, s_AA, s_An, s_AL, s_AR, s_AC, s_LI, s_LJ, s_LA, s_LL, s_Ln, s_LR, s_LC, zleT, zleF, zltT, zltF, zeqT, zeqF, nzleT, nzleF, nzltT, nzltF, nzeqT, nzeqF, znleT, znleF, znltT, znltF, zneqT, zneqF, z_add, z_sub, z_mul, z_neg, z_an, z_na, z_sn, z_ns, z_mn, z_nm, Nat.add_sub_cancel, decide_true, decide_false, and_self, e_done, e_ref1, e_ref2, e_ref3, e_ref5, e_ref6, e_tel1, e_tel2, e_tel3, e_tel5, e_tel6, e_telN, rfT_m, ↓b_of b0, ↓b_of a1, p2]
          · unfold f_X12_ring f_X12_ring_73
            simp (disch := omega) only [k_let, Option.bind_some, ↓reduceIte, eq_self, true_or, or_true, n01_0, n01_1, kb_or, kb_0T, kb_0F, vn_0, vn_1, vn_k, nl_0, nl_1, nl_2, nl_3, nl_4, nl_5, nl_6, nl_7, nl_8, nl_9, nl_10, nl_11, nl_12, nl_13, nl_14, nl_15, nl_16, nl_20, nl_21, nl_22, nl_23, nl_24, nl_25, nl_26, nl_27, nl_28, nl_29, nl_30, nl_31, nl_32, nl_40, nl_41, nl_42, nl_43, nl_45, nl_47, nl_48, nl_50, nl_57, nl_59, nl_60, nl_61, nl_62, nl_63, nl_64, nl_91, nl_93, nl_94, nl_97, nl_98, nl_100, nl_110, nl_122, nl_130, nl_144, nl_160, nl_240, nl_241, nl_255, nl_256, nl_400, nl_800, nl_900, nl_999, nl_1000, nl_1001, nl_1024, nl_1103, nl_1928, nl_4321, nl_5560, nl_12345, nl_1000000, nl_1000003, nl_252645135, nl_858993459, nl_1431655765, nl_1000000000, nI_add, pk_mul, n_sub, n_neg, n_cl, leT, leF, ltT, ltF, eqT, eqF, kbT, s_II, s_In, s_IJ, s_IA, s_IL, s_IR, s_IC, s_JI, s_JJ, s_Jn, s_JA, s_JL, s_JR, s_JC, s_AI, s_AJ, s_AA, s_An, s_AL, s_AR, s_AC, s_LI, s_LJ, s_LA, s_LL, s_Ln, s_LR, s_LC, zleT, zleF, zltT, zltF, zeqT, zeqF, nzleT, nzleF, nzltT, nzltF, nzeqT, nzeqF, znleT, znleF, znltT, znltF, zneqT, zneqF, z_add, z_sub, z_mul, z_neg, z_an, z_na, z_sn, z_ns, z_mn, z_nm, Nat.add_sub_cancel, decide_true, decide_false, and_self, e_done, e_ref1, e_ref2, e_ref3, e_ref5, e_ref6, e_tel1, e_tel2, e_tel3, e_tel5, e_tel6, e_telN, rfT_m, ↓b_of b1, ↓b_of m1, ↓b_of n1, z2]
        · have l1 : (y < nI 0) = (y.toInt < (0 : Nat)) := lt_xn y 0 (by decide)
          have en : (nI n).toInt64 - lZ 1 = lZ ((n : Int) - 1) := by rw [L_n (by omega), L_sub]
          have xin : ∀ T, f_X12_in y.toInt64 (lZ 0) (lZ ((n : Int) - 1)) T = some (kB (decide (0 ≤ y.toInt ∧ y.toInt ≤ (n : Int) - 1)), T) := fun T => e_in _ _ _ _ (by decide) (by decide) (by omega) (by omega)
          by_cases c2 : 0 ≤ y.toInt ∧ y.toInt ≤ (n : Int) - 1
          · obtain ⟨j, rfl, hj, -⟩ := rng_n (x := y) (n := n) (by omega)
            refine ⟨nI (p j), A, C, ?_, ?_, (hv.fs fC).1⟩
            · unfold f_X11_ring f_X11_ring_65
              simp (disch := omega) only [k_let, Option.bind_some, ↓reduceIte, eq_self, true_or, or_true, n01_0, n01_1, kb_or, kb_0T, kb_0F, vn_0, vn_1, vn_k, nl_0, nl_1, nl_2, nl_3, nl_4, nl_5, nl_6, nl_7, nl_8, nl_9, nl_10, nl_11, nl_12, nl_13, nl_14, nl_15, nl_16, nl_20, nl_21, nl_22, nl_23, nl_24, nl_25, nl_26, nl_27, nl_28, nl_29, nl_30, nl_31, nl_32, nl_40, nl_41, nl_42, nl_43, nl_45, nl_47, nl_48, nl_50, nl_57, nl_59, nl_60, nl_61, nl_62, nl_63, nl_64, nl_91, nl_93, nl_94, nl_97, nl_98, nl_100, nl_110, nl_122, nl_130, nl_144, nl_160, nl_240, nl_241, nl_255, nl_256, nl_400, nl_800, nl_900, nl_999, nl_1000, nl_1001, nl_1024, nl_1103, nl_1928, nl_4321, nl_5560, nl_12345, nl_1000000, nl_1000003, nl_252645135, nl_858993459, nl_1431655765, nl_1000000000, nI_add, pk_mul, n_sub, n_neg, n_cl, leT, leF, ltT, ltF, eqT, eqF, kbT, s_II, s_In, s_IJ, s_IA, s_IL, s_IR, s_IC, s_JI, s_JJ, s_Jn, s_JA, s_JL, s_JR, s_JC, s_AI, s_AJ, s_AA, s_An, s_AL, s_AR, s_AC, s_LI, s_LJ, s_LA, s_LL, s_Ln, s_LR, s_LC, zleT, zleF, zltT, zltF, zeqT, zeqF, nzleT, nzleF, nzltT, nzltF, nzeqT, nzeqF, znleT, znleF, znltT, znltF, zneqT, zneqF, z_add, z_sub, z_mul, z_neg, z_an, z_na, z_sn, z_ns, z_mn, z_nm, Nat.add_sub_cancel, decide_true, decide_false, and_self, e_done, e_ref1, e_ref2, e_ref3, e_ref5, e_ref6, e_tel1, e_tel2, e_tel3, e_tel5, e_tel6, e_telN, rfT_m, ↓b_of b0, ↓b_of a1, p2, p3 j hj]
            · unfold f_X12_ring f_X12_ring_73
              simp (disch := omega) only [k_let, Option.bind_some, ↓reduceIte, eq_self, true_or, or_true, n01_0, n01_1, kb_or, kb_0T, kb_0F, vn_0, vn_1, vn_k, nl_0, nl_1, nl_2, nl_3, nl_4, nl_5, nl_6, nl_7, nl_8, nl_9, nl_10, nl_11, nl_12, nl_13, nl_14, nl_15, nl_16, nl_20, nl_21, nl_22, nl_23, nl_24, nl_25, nl_26, nl_27, nl_28, nl_29, nl_30, nl_31, nl_32, nl_40, nl_41, nl_42, nl_43, nl_45, nl_47, nl_48, nl_50, nl_57, nl_59, nl_60, nl_61, nl_62, nl_63, nl_64, nl_91, nl_93, nl_94, nl_97, nl_98, nl_100, nl_110, nl_122, nl_130, nl_144, nl_160, nl_240, nl_241, nl_255, nl_256, nl_400, nl_800, nl_900, nl_999, nl_1000, nl_1001, nl_1024, nl_1103, nl_1928, nl_4321, nl_5560, nl_12345, nl_1000000, nl_1000003, nl_252645135, nl_858993459, nl_1431655765, nl_1000000000, nI_add, pk_mul, n_sub, n_neg, n_cl, leT, leF, ltT, ltF, eqT, eqF, kbT, s_II, s_In, s_IJ, s_IA, s_IL, s_IR, s_IC, s_JI, s_JJ, s_Jn, s_JA, s_JL, s_JR, s_JC, s_AI, s_AJ, s_AA, s_An, s_AL, s_AR, s_AC, s_LI, s_LJ, s_LA, s_LL, s_Ln, s_LR, s_LC, zleT, zleF, zltT, zltF, zeqT, zeqF, nzleT, nzleF, nzltT, nzltF, nzeqT, nzeqF, znleT, znleF, znltT, znltF, zneqT, zneqF, z_add, z_sub, z_mul, z_neg, z_an, z_na, z_sn, z_ns, z_mn, z_nm, Nat.add_sub_cancel, decide_true, decide_false, and_self, e_done, e_ref1, e_ref2, e_ref3, e_ref5, e_ref6, e_tel1, e_tel2, e_tel3, e_tel5, e_tel6, e_telN, rfT_m, ll_0, ll_1, ll_2, ll_7, ll_8, ll_9, ll_10, ll_20, ll_23, ll_24, ll_26, ll_30, ll_32, ll_48, ll_96, ll_240, ll_256, ll_294, ll_498, ll_999, ll_1000, ll_1103, ll_1476, ll_12345, ll_14836, ll_65536, ll_1000000, ll_1000003, ll_1048576, ll_1000000000, ↓b_of b1, ↓b_of m1, ↓b_of n1, z2, en, xin, decide_eq_true c2, kB_t, z3 j hj, e3 j hj]
          · refine ⟨iZ (-((1 : Nat) : Int)), A, C, ?_, ?_, (hv.fs fC).1⟩
            · unfold f_X11_ring f_X11_ring_64 f_X11_ring_65
              have l2 : (nI n ≤ y) = ((n : Int) ≤ y.toInt) := by rw [Int32.le_iff_toInt_le, n_ti (by omega)]
              by_cases c3 : y.toInt < (0 : Nat)
              · simp (disch := omega) only [k_let, Option.bind_some, ↓reduceIte, eq_self, true_or, or_true, n01_0, n01_1, kb_or, kb_0T, kb_0F, vn_0, vn_1, vn_k, nl_0, nl_1, nl_2, nl_3, nl_4, nl_5, nl_6, nl_7, nl_8, nl_9, nl_10, nl_11, nl_12, nl_13, nl_14, nl_15, nl_16, nl_20, nl_21, nl_22, nl_23, nl_24, nl_25, nl_26, nl_27, nl_28, nl_29, nl_30, nl_31, nl_32, nl_40, nl_41, nl_42, nl_43, nl_45, nl_47, nl_48, nl_50, nl_57, nl_59, nl_60, nl_61, nl_62, nl_63, nl_64, nl_91, nl_93, nl_94, nl_97, nl_98, nl_100, nl_110, nl_122, nl_130, nl_144, nl_160, nl_240, nl_241, nl_255, nl_256, nl_400, nl_800, nl_900, nl_999, nl_1000, nl_1001, nl_1024, nl_1103, nl_1928, nl_4321, nl_5560, nl_12345, nl_1000000, nl_1000003, nl_252645135, nl_858993459, nl_1431655765, nl_1000000000, nI_add, pk_mul, n_sub, n_neg, n_cl, leT, leF, ltT, ltF, eqT, eqF, kbT, s_II, s_In, s_IJ, s_IA, s_IL, s_IR, s_IC, s_JI, s_JJ, s_Jn, s_JA, s_JL, s_JR, s_JC, s_AI, s_AJ, s_AA, s_An, s_AL, s_AR, s_AC, s_LI, s_LJ, s_LA, s_LL, s_Ln, s_LR, s_LC, zleT, zleF, zltT, zltF, zeqT, zeqF, nzleT, nzleF, nzltT, nzltF, nzeqT, nzeqF, znleT, znleF, znltT, znltF, zneqT, zneqF, z_add, z_sub, z_mul, z_neg, z_an, z_na, z_sn, z_ns, z_mn, z_nm, Nat.add_sub_cancel, decide_true, decide_false, and_self, e_done, e_ref1, e_ref2, e_ref3, e_ref5, e_ref6, e_tel1, e_tel2, e_tel3, e_tel5, e_tel6, e_telN, rfT_m, ↓b_of b0, ↓b_of a1, cy, l1, c3]
              · simp (disch := omega) only [k_let, Option.bind_some, ↓reduceIte, eq_self, true_or, or_true, n01_0, n01_1, kb_or, kb_0T, kb_0F, vn_0, vn_1, vn_k, nl_0, nl_1, nl_2, nl_3, nl_4, nl_5, nl_6, nl_7, nl_8, nl_9, nl_10, nl_11, nl_12, nl_13, nl_14, nl_15, nl_16, nl_20, nl_21, nl_22, nl_23, nl_24, nl_25, nl_26, nl_27, nl_28, nl_29, nl_30, nl_31, nl_32, nl_40, nl_41, nl_42, nl_43, nl_45, nl_47, nl_48, nl_50, nl_57, nl_59, nl_60, nl_61, nl_62, nl_63, nl_64, nl_91, nl_93, nl_94, nl_97, nl_98, nl_100, nl_110, nl_122, nl_130, nl_144, nl_160, nl_240, nl_241, nl_255, nl_256, nl_400, nl_800, nl_900, nl_999, nl_1000, nl_1001, nl_1024, nl_1103, nl_1928, nl_4321, nl_5560, nl_12345, nl_1000000, nl_1000003, nl_252645135, nl_858993459, nl_1431655765, nl_1000000000, nI_add, pk_mul, n_sub, n_neg, n_cl, leT, leF, ltT, ltF, eqT, eqF, kbT, s_II, s_In, s_IJ, s_IA, s_IL, s_IR, s_IC, s_JI, s_JJ, s_Jn, s_JA, s_JL, s_JR, s_JC, s_AI, s_AJ, s_AA, s_An, s_AL, s_AR, s_AC, s_LI, s_LJ, s_LA, s_LL, s_Ln, s_LR, s_LC, zleT, zleF, zltT, zltF, zeqT, zeqF, nzleT, nzleF, nzltT, nzltF, nzeqT, nzeqF, znleT, znleF, znltT, znltF, zneqT, zneqF, z_add, z_sub, z_mul, z_neg, z_an, z_na, z_sn, z_ns, z_mn, z_nm, Nat.add_sub_cancel, decide_true, decide_false, and_self, e_done, e_ref1, e_ref2, e_ref3, e_ref5, e_ref6, e_tel1, e_tel2, e_tel3, e_tel5, e_tel6, e_telN, rfT_m, ↓b_of b0, ↓b_of a1, cy, l1, c3, p2, l2, show (n : Int) ≤ y.toInt by omega]
            · unfold f_X12_ring f_X12_ring_73
              simp (disch := omega) only [k_let, Option.bind_some, ↓reduceIte, eq_self, true_or, or_true, n01_0, n01_1, kb_or, kb_0T, kb_0F, vn_0, vn_1, vn_k, nl_0, nl_1, nl_2, nl_3, nl_4, nl_5, nl_6, nl_7, nl_8, nl_9, nl_10, nl_11, nl_12, nl_13, nl_14, nl_15, nl_16, nl_20, nl_21, nl_22, nl_23, nl_24, nl_25, nl_26, nl_27, nl_28, nl_29, nl_30, nl_31, nl_32, nl_40, nl_41, nl_42, nl_43, nl_45, nl_47, nl_48, nl_50, nl_57, nl_59, nl_60, nl_61, nl_62, nl_63, nl_64, nl_91, nl_93, nl_94, nl_97, nl_98, nl_100, nl_110, nl_122, nl_130, nl_144, nl_160, nl_240, nl_241, nl_255, nl_256, nl_400, nl_800, nl_900, nl_999, nl_1000, nl_1001, nl_1024, nl_1103, nl_1928, nl_4321, nl_5560, nl_12345, nl_1000000, nl_1000003, nl_252645135, nl_858993459, nl_1431655765, nl_1000000000, nI_add, pk_mul, n_sub, n_neg, n_cl, leT, leF, ltT, ltF, eqT, eqF, kbT, s_II, s_In, s_IJ, s_IA, s_IL, s_IR, s_IC, s_JI, s_JJ, s_Jn, s_JA, s_JL, s_JR, s_JC, s_AI, s_AJ, s_AA, s_An, s_AL, s_AR, s_AC, s_LI, s_LJ, s_LA, s_LL, s_Ln, s_LR, s_LC, zleT, zleF, zltT, zltF, zeqT, zeqF, nzleT, nzleF, nzltT, nzltF, nzeqT, nzeqF, znleT, znleF, znltT, znltF, zneqT, zneqF, z_add, z_sub, z_mul, z_neg, z_an, z_na, z_sn, z_ns, z_mn, z_nm, Nat.add_sub_cancel, decide_true, decide_false, and_self, e_done, e_ref1, e_ref2, e_ref3, e_ref5, e_ref6, e_tel1, e_tel2, e_tel3, e_tel5, e_tel6, e_telN, rfT_m, ll_0, ll_1, ll_2, ll_7, ll_8, ll_9, ll_10, ll_20, ll_23, ll_24, ll_26, ll_30, ll_32, ll_48, ll_96, ll_240, ll_256, ll_294, ll_498, ll_999, ll_1000, ll_1103, ll_1476, ll_12345, ll_14836, ll_65536, ll_1000000, ll_1000003, ll_1048576, ll_1000000000, ↓b_of b1, ↓b_of m1, ↓b_of n1, z2, cy, en, xin, decide_eq_false c2, kB_f]
    · rw [kB_f] at a1
      rcases e_same irr n3 with ⟨z1, z2⟩ | ⟨n', p', z1, z2, z3⟩
      · refine ⟨iZ (-((1 : Nat) : Int)), A, C, ?_, ?_, (hv.fs fC).1⟩
        · unfold f_X11_ring f_X11_ring_22
          simp (disch := omega) only [k_let, Option.bind_some, ↓reduceIte, eq_self, true_or, or_true, n01_0, n01_1, kb_or, kb_0T, kb_0F, vn_0, vn_1, vn_k, nl_0, nl_1, nl_2, nl_3, nl_4, nl_5, nl_6, nl_7, nl_8, nl_9, nl_10, nl_11, nl_12, nl_13, nl_14, nl_15, nl_16, nl_20, nl_21, nl_22, nl_23, nl_24, nl_25, nl_26, nl_27, nl_28, nl_29, nl_30, nl_31, nl_32, nl_40, nl_41, nl_42, nl_43, nl_45, nl_47, nl_48, nl_50, nl_57, nl_59, nl_60, nl_61, nl_62, nl_63, nl_64, nl_91, nl_93, nl_94, nl_97, nl_98, nl_100, nl_110, nl_122, nl_130, nl_144, nl_160, nl_240, nl_241, nl_255, nl_256, nl_400, nl_800, nl_900, nl_999, nl_1000, nl_1001, nl_1024, nl_1103, nl_1928, nl_4321, nl_5560, nl_12345, nl_1000000, nl_1000003, nl_252645135, nl_858993459, nl_1431655765, nl_1000000000, nI_add, pk_mul, n_sub, n_neg, n_cl, leT, leF, ltT, ltF, eqT, eqF, kbT, s_II, s_In, s_IJ, s_IA, s_IL, s_IR, s_IC, s_JI, s_JJ, s_Jn, s_JA, s_JL, s_JR, s_JC, s_AI, s_AJ, s_AA, s_An, s_AL, s_AR, s_AC, s_LI, s_LJ, s_LA, s_LL, s_Ln, s_LR, s_LC, zleT, zleF, zltT, zltF, zeqT, zeqF, nzleT, nzleF, nzltT, nzltF, nzeqT, nzeqF, znleT, znleF, znltT, znltF, zneqT, zneqF, z_add, z_sub, z_mul, z_neg, z_an, z_na, z_sn, z_ns, z_mn, z_nm, Nat.add_sub_cancel, decide_true, decide_false, and_self, e_done, e_ref1, e_ref2, e_ref3, e_ref5, e_ref6, e_tel1, e_tel2, e_tel3, e_tel5, e_tel6, e_telN, rfT_m, ↓b_of b0, ↓b_of a1]
        · unfold f_X12_ring f_X12_ring_73
          simp (disch := omega) only [k_let, Option.bind_some, ↓reduceIte, eq_self, true_or, or_true, n01_0, n01_1, kb_or, kb_0T, kb_0F, vn_0, vn_1, vn_k, nl_0, nl_1, nl_2, nl_3, nl_4, nl_5, nl_6, nl_7, nl_8, nl_9, nl_10, nl_11, nl_12, nl_13, nl_14, nl_15, nl_16, nl_20, nl_21, nl_22, nl_23, nl_24, nl_25, nl_26, nl_27, nl_28, nl_29, nl_30, nl_31, nl_32, nl_40, nl_41, nl_42, nl_43, nl_45, nl_47, nl_48, nl_50, nl_57, nl_59, nl_60, nl_61, nl_62, nl_63, nl_64, nl_91, nl_93, nl_94, nl_97, nl_98, nl_100, nl_110, nl_122, nl_130, nl_144, nl_160, nl_240, nl_241, nl_255, nl_256, nl_400, nl_800, nl_900, nl_999, nl_1000, nl_1001, nl_1024, nl_1103, nl_1928, nl_4321, nl_5560, nl_12345, nl_1000000, nl_1000003, nl_252645135, nl_858993459, nl_1431655765, nl_1000000000, nI_add, pk_mul, n_sub, n_neg, n_cl, leT, leF, ltT, ltF, eqT, eqF, kbT, s_II, s_In, s_IJ, s_IA, s_IL, s_IR, s_IC, s_JI, s_JJ, s_Jn, s_JA, s_JL, s_JR, s_JC, s_AI, s_AJ, s_AA, s_An, s_AL, s_AR, s_AC, s_LI, s_LJ, s_LA, s_LL, s_Ln, s_LR, s_LC, zleT, zleF, zltT, zltF, zeqT, zeqF, nzleT, nzleF, nzltT, nzltF, nzeqT, nzeqF, znleT, znleF, znltT, znltF, zneqT, zneqF, z_add, z_sub, z_mul, z_neg, z_an, z_na, z_sn, z_ns, z_mn, z_nm, Nat.add_sub_cancel, decide_true, decide_false, and_self, e_done, e_ref1, e_ref2, e_ref3, e_ref5, e_ref6, e_tel1, e_tel2, e_tel3, e_tel5, e_tel6, e_telN, rfT_m, ↓b_of b1, ↓b_of m1, ↓b_of n1, z1]
      · exact absurd z1.1 (p1 n' p')
  · have b0 := e_hasTune hv.c x
    rw [decide_eq_false c, kB_f] at b0
    have b1 := e_m_isTune hv2.r x
    rw [decide_eq_false c, kB_f] at b1
    refine ⟨iZ (-((1 : Nat) : Int)), S, sI S 33 (nI 0), ?_, ?_, hv2.1⟩
    · unfold f_X11_ring f_X11_ring_22
      simp (disch := omega) only [k_let, Option.bind_some, ↓reduceIte, eq_self, true_or, or_true, n01_0, n01_1, kb_or, kb_0T, kb_0F, vn_0, vn_1, vn_k, nl_0, nl_1, nl_2, nl_3, nl_4, nl_5, nl_6, nl_7, nl_8, nl_9, nl_10, nl_11, nl_12, nl_13, nl_14, nl_15, nl_16, nl_20, nl_21, nl_22, nl_23, nl_24, nl_25, nl_26, nl_27, nl_28, nl_29, nl_30, nl_31, nl_32, nl_40, nl_41, nl_42, nl_43, nl_45, nl_47, nl_48, nl_50, nl_57, nl_59, nl_60, nl_61, nl_62, nl_63, nl_64, nl_91, nl_93, nl_94, nl_97, nl_98, nl_100, nl_110, nl_122, nl_130, nl_144, nl_160, nl_240, nl_241, nl_255, nl_256, nl_400, nl_800, nl_900, nl_999, nl_1000, nl_1001, nl_1024, nl_1103, nl_1928, nl_4321, nl_5560, nl_12345, nl_1000000, nl_1000003, nl_252645135, nl_858993459, nl_1431655765, nl_1000000000, nI_add, pk_mul, n_sub, n_neg, n_cl, leT, leF, ltT, ltF, eqT, eqF, kbT, s_II, s_In, s_IJ, s_IA, s_IL, s_IR, s_IC, s_JI, s_JJ, s_Jn, s_JA, s_JL, s_JR, s_JC, s_AI, s_AJ, s_AA, s_An, s_AL, s_AR, s_AC, s_LI, s_LJ, s_LA, s_LL, s_Ln, s_LR, s_LC, zleT, zleF, zltT, zltF, zeqT, zeqF, nzleT, nzleF, nzltT, nzltF, nzeqT, nzeqF, znleT, znleF, znltT, znltF, zneqT, zneqF, z_add, z_sub, z_mul, z_neg, z_an, z_na, z_sn, z_ns, z_mn, z_nm, Nat.add_sub_cancel, decide_true, decide_false, and_self, e_done, e_ref1, e_ref2, e_ref3, e_ref5, e_ref6, e_tel1, e_tel2, e_tel3, e_tel5, e_tel6, e_telN, rfT_m, ↓b_of b0]
    · unfold f_X12_ring
      simp (disch := omega) only [k_let, Option.bind_some, ↓reduceIte, eq_self, true_or, or_true, n01_0, n01_1, kb_or, kb_0T, kb_0F, vn_0, vn_1, vn_k, nl_0, nl_1, nl_2, nl_3, nl_4, nl_5, nl_6, nl_7, nl_8, nl_9, nl_10, nl_11, nl_12, nl_13, nl_14, nl_15, nl_16, nl_20, nl_21, nl_22, nl_23, nl_24, nl_25, nl_26, nl_27, nl_28, nl_29, nl_30, nl_31, nl_32, nl_40, nl_41, nl_42, nl_43, nl_45, nl_47, nl_48, nl_50, nl_57, nl_59, nl_60, nl_61, nl_62, nl_63, nl_64, nl_91, nl_93, nl_94, nl_97, nl_98, nl_100, nl_110, nl_122, nl_130, nl_144, nl_160, nl_240, nl_241, nl_255, nl_256, nl_400, nl_800, nl_900, nl_999, nl_1000, nl_1001, nl_1024, nl_1103, nl_1928, nl_4321, nl_5560, nl_12345, nl_1000000, nl_1000003, nl_252645135, nl_858993459, nl_1431655765, nl_1000000000, nI_add, pk_mul, n_sub, n_neg, n_cl, leT, leF, ltT, ltF, eqT, eqF, kbT, s_II, s_In, s_IJ, s_IA, s_IL, s_IR, s_IC, s_JI, s_JJ, s_Jn, s_JA, s_JL, s_JR, s_JC, s_AI, s_AJ, s_AA, s_An, s_AL, s_AR, s_AC, s_LI, s_LJ, s_LA, s_LL, s_Ln, s_LR, s_LC, zleT, zleF, zltT, zltF, zeqT, zeqF, nzleT, nzleF, nzltT, nzltF, nzeqT, nzeqF, znleT, znleF, znltT, znltF, zneqT, zneqF, z_add, z_sub, z_mul, z_neg, z_an, z_na, z_sn, z_ns, z_mn, z_nm, Nat.add_sub_cancel, decide_true, decide_false, and_self, e_done, e_ref1, e_ref2, e_ref3, e_ref5, e_ref6, e_tel1, e_tel2, e_tel3, e_tel5, e_tel6, e_telN, rfT_m, ↓b_of b1]
