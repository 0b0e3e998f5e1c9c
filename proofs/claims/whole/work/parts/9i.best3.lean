/-! part 9i: best: the class's bundles -/
theorem n_dn {x : Nat} (h : 0 < x) : nI x + iZ (-((1 : Nat) : Int)) = nI (x - 1) := by
  rw [n_Z, z_add, n_Z]
  congr 1
  omega
def En (r : Nat → Int32) (V : Nat → Vd) (U : St) (k1 k2 i : Nat) (A : Fam) : Prop := ∃ (G : Int) (D : Nat), gL U k1 i = lZ G ∧ gL U k2 i = lZ (D : Int) ∧ Mx r V A G D
theorem En.fr {r : Nat → Int32} {V : Nat → Vd} {U T : St} {k1 k2 i : Nat} {A : Fam} (h : En r V U k1 k2 i A) (e1 : gL T k1 i = gL U k1 i) (e2 : gL T k2 i = gL U k2 i) : En r V T k1 k2 i A := by
  obtain ⟨G, D, a, b, c⟩ := h
  exact ⟨G, D, e1.trans a, e2.trans b, c⟩
theorem En.iff {r : Nat → Int32} {V : Nat → Vd} {U : St} {k1 k2 i : Nat} {A B : Fam} (h : En r V U k1 k2 i A) (e : ∀ c F, A c F ↔ B c F) : En r V U k1 k2 i B := by
  obtain ⟨G, D, a, b, c⟩ := h
  exact ⟨G, D, a, b, c.iff e⟩
def Bd9 (A : Fam) : Prop := ∀ c F, A c F → ∀ e, c e ≤ 9
theorem Mx.bd {r : Nat → Int32} {V : Nat → Vd} (w : Wf r) (hV : ∀ d, d < nD r → (V d).1 ≤ 999) {A : Fam} (hA : Bd9 A) {G : Int} {D : Nat} (h : Mx r V A G D) : -1099511627776 < G ∧ G < 1099511627776 ∧ D < 10000000000000000 := by
  obtain ⟨⟨c, F, a1, a2, a3⟩, -⟩ := h
  have := gv_bd w hV (hA c F a1) F
  have := dg_bd w (hA c F a1)
  omega
theorem e_better {G G' : Int} {D D' : Nat} (g1 : -1099511627776 < G ∧ G < 1099511627776 ∧ D < 10000000000000000) (g2 : -1099511627776 < G' ∧ G' < 1099511627776 ∧ D' < 10000000000000000) (S : St) :
    f_X2_isBetter (lZ G) (lZ (D : Int)) (lZ G') (lZ (D' : Int)) S = some (kB (decide (G' < G ∨ (G = G' ∧ D < D'))), S) := by
  unfold f_X2_isBetter f_X2_isBetter_21 f_X2_isBetter_25 f_X2_isBetter_26
  by_cases c : G' < G
  · rw [decide_eq_true (Or.inl c), kB_t]
    simp (disch := omega) only [k_let, Option.bind_some, ↓reduceIte, eq_self, true_or, or_true, n01_0, n01_1, kb_or, kb_0T, kb_0F, vn_0, vn_1, vn_k, nl_0, nl_1, nl_2, nl_3, nl_4, nl_5, nl_6, nl_7, nl_8, nl_9, nl_10, nl_11, nl_12, nl_13, nl_14, nl_15, nl_16, nl_20, nl_21, nl_22, nl_23, nl_24, nl_25, nl_26, nl_27, nl_28, nl_29, nl_30, nl_31, nl_32, nl_40, nl_41, nl_42, nl_43, nl_45, nl_47, nl_48, nl_50, nl_57, nl_59, nl_60, nl_61, nl_62, nl_63, nl_64, nl_91, nl_93, nl_94, nl_97, nl_98, nl_100, nl_110, nl_122, nl_130, nl_144, nl_160, nl_240, nl_241, nl_255, nl_256, nl_400, nl_800, nl_900, nl_999, nl_1000, nl_1001, nl_1024, nl_1103, nl_1928, nl_4321, nl_5560, nl_12345, nl_1000000, nl_1000003, nl_252645135, nl_858993459, nl_1431655765, nl_1000000000, leT, leF, ltT, ltF, eqT, eqF, kbT, L_leT, L_leF, L_ltT, L_ltF, L_eqT, L_eqF]
  · by_cases c2 : G = G'
    · by_cases c3 : D < D'
      · rw [decide_eq_true (Or.inr ⟨c2, c3⟩), kB_t]
        simp (disch := omega) only [k_let, Option.bind_some, ↓reduceIte, eq_self, true_or, or_true, n01_0, n01_1, kb_or, kb_0T, kb_0F, vn_0, vn_1, vn_k, nl_0, nl_1, nl_2, nl_3, nl_4, nl_5, nl_6, nl_7, nl_8, nl_9, nl_10, nl_11, nl_12, nl_13, nl_14, nl_15, nl_16, nl_20, nl_21, nl_22, nl_23, nl_24, nl_25, nl_26, nl_27, nl_28, nl_29, nl_30, nl_31, nl_32, nl_40, nl_41, nl_42, nl_43, nl_45, nl_47, nl_48, nl_50, nl_57, nl_59, nl_60, nl_61, nl_62, nl_63, nl_64, nl_91, nl_93, nl_94, nl_97, nl_98, nl_100, nl_110, nl_122, nl_130, nl_144, nl_160, nl_240, nl_241, nl_255, nl_256, nl_400, nl_800, nl_900, nl_999, nl_1000, nl_1001, nl_1024, nl_1103, nl_1928, nl_4321, nl_5560, nl_12345, nl_1000000, nl_1000003, nl_252645135, nl_858993459, nl_1431655765, nl_1000000000, leT, leF, ltT, ltF, eqT, eqF, kbT, L_leT, L_leF, L_ltT, L_ltF, L_eqT, L_eqF]
      · rw [decide_eq_false (by omega), kB_f]
        simp (disch := omega) only [k_let, Option.bind_some, ↓reduceIte, eq_self, true_or, or_true, n01_0, n01_1, kb_or, kb_0T, kb_0F, vn_0, vn_1, vn_k, nl_0, nl_1, nl_2, nl_3, nl_4, nl_5, nl_6, nl_7, nl_8, nl_9, nl_10, nl_11, nl_12, nl_13, nl_14, nl_15, nl_16, nl_20, nl_21, nl_22, nl_23, nl_24, nl_25, nl_26, nl_27, nl_28, nl_29, nl_30, nl_31, nl_32, nl_40, nl_41, nl_42, nl_43, nl_45, nl_47, nl_48, nl_50, nl_57, nl_59, nl_60, nl_61, nl_62, nl_63, nl_64, nl_91, nl_93, nl_94, nl_97, nl_98, nl_100, nl_110, nl_122, nl_130, nl_144, nl_160, nl_240, nl_241, nl_255, nl_256, nl_400, nl_800, nl_900, nl_999, nl_1000, nl_1001, nl_1024, nl_1103, nl_1928, nl_4321, nl_5560, nl_12345, nl_1000000, nl_1000003, nl_252645135, nl_858993459, nl_1431655765, nl_1000000000, leT, leF, ltT, ltF, eqT, eqF, kbT, L_leT, L_leF, L_ltT, L_ltF, L_eqT, L_eqF]
    · rw [decide_eq_false (by omega), kB_f]
      simp (disch := omega) only [k_let, Option.bind_some, ↓reduceIte, eq_self, true_or, or_true, n01_0, n01_1, kb_or, kb_0T, kb_0F, vn_0, vn_1, vn_k, nl_0, nl_1, nl_2, nl_3, nl_4, nl_5, nl_6, nl_7, nl_8, nl_9, nl_10, nl_11, nl_12, nl_13, nl_14, nl_15, nl_16, nl_20, nl_21, nl_22, nl_23, nl_24, nl_25, nl_26, nl_27, nl_28, nl_29, nl_30, nl_31, nl_32, nl_40, nl_41, nl_42, nl_43, nl_45, nl_47, nl_48, nl_50, nl_57, nl_59, nl_60, nl_61, nl_62, nl_63, nl_64, nl_91, nl_93, nl_94, nl_97, nl_98, nl_100, nl_110, nl_122, nl_130, nl_144, nl_160, nl_240, nl_241, nl_255, nl_256, nl_400, nl_800, nl_900, nl_999, nl_1000, nl_1001, nl_1024, nl_1103, nl_1928, nl_4321, nl_5560, nl_12345, nl_1000000, nl_1000003, nl_252645135, nl_858993459, nl_1431655765, nl_1000000000, leT, leF, ltT, ltF, eqT, eqF, kbT, L_leT, L_leF, L_ltT, L_ltF, L_eqT, L_eqF]
def bun (r : Nat → Int32) (A : Nat → Fam) (d b m : Nat) : Fam := fun c F => A m c F ∨ (b * dLn r d ≤ m ∧ ∃ c1, A (m - b * dLn r d) c1 F ∧ c = up1 c1 d b)
theorem l_bun {r : Nat → Int32} {V : Nat → Vd} {S : St} (w : Wf r) (hV : ∀ d, d < nD r → (V d).1 ≤ 999) {A : Nat → Fam} {d b most : Nat} (hd : d < nD r) (hb : 0 < b) (hm : most ≤ 240) (h9 : ∀ m, Bd9 (A m)) (h9' : ∀ m, Bd9 (bun r A d b m)) :
    ∀ (k f x : Nat) (U : St), x + 1 = b * dLn r d + k → k < f → x ≤ most → Fr [] [] [] [35, 36] S U → (∀ m, m ≤ x → En r V U 35 36 m (A m)) → (∀ m, x < m → m ≤ most → En r V U 35 36 m (bun r A d b m)) →
    ∃ W, f_X2_offerBundle_72 f (nI (b * dLn r d)) (lZ (1048576 * (b : Int) * (V d).1 - (b * dLn r d : Nat))) (lZ ((b * 10 ^ (15 - d) : Nat) : Int)) (nI x) U = some W ∧ Fr [] [] [] [35, 36] S W ∧ ∀ m, m ≤ most → En r V W 35 36 m (bun r A d b m) := by
  have l1 := (w.ln hd).2
  have tp : 0 < b * dLn r d := Nat.mul_pos hb l1.2
  generalize ht : b * dLn r d = t at *
  intro k
  induction k with
  | zero =>
    intro f x U hx hf hxm hF hA hB
    obtain ⟨f, rfl⟩ : ∃ g, f = g + 1 := ⟨f - 1, by omega⟩
    refine ⟨U, ?_, hF, fun m hmm => ?_⟩
    · rw [f_X2_offerBundle_72]
      simp (disch := omega) only [k_let, Option.bind_some, ↓reduceIte, eq_self, true_or, or_true, n01_0, n01_1, kb_or, kb_0T, kb_0F, vn_0, vn_1, vn_k, nl_0, nl_1, nl_2, nl_3, nl_4, nl_5, nl_6, nl_7, nl_8, nl_9, nl_10, nl_11, nl_12, nl_13, nl_14, nl_15, nl_16, nl_20, nl_21, nl_22, nl_23, nl_24, nl_25, nl_26, nl_27, nl_28, nl_29, nl_30, nl_31, nl_32, nl_40, nl_41, nl_42, nl_43, nl_45, nl_47, nl_48, nl_50, nl_57, nl_59, nl_60, nl_61, nl_62, nl_63, nl_64, nl_91, nl_93, nl_94, nl_97, nl_98, nl_100, nl_110, nl_122, nl_130, nl_144, nl_160, nl_240, nl_241, nl_255, nl_256, nl_400, nl_800, nl_900, nl_999, nl_1000, nl_1001, nl_1024, nl_1103, nl_1928, nl_4321, nl_5560, nl_12345, nl_1000000, nl_1000003, nl_252645135, nl_858993459, nl_1431655765, nl_1000000000, nI_add, pk_mul, n_sub, n_neg, n_cl, leT, leF, ltT, ltF, eqT, eqF, kbT, s_II, s_In, s_IJ, s_IA, s_IL, s_IR, s_IC, s_JI, s_JJ, s_Jn, s_JA, s_JL, s_JR, s_JC, s_AI, s_AJ, s_AA, s_An, s_AL, s_AR, s_AC, s_LI, s_LJ, s_LA, s_LL, s_Ln, s_LR, s_LC]
    · by_cases q : x < m
      · exact hB m q hmm
      · refine (hA m (by omega)).iff (fun c F => ⟨Or.inl, ?_⟩)
        rintro (z | ⟨z, -⟩)
        · exact z
        · rw [ht] at z; omega
  | succ k ih =>
    intro f x U hx hf hxm hF hA hB
    obtain ⟨f, rfl⟩ : ∃ g, f = g + 1 := ⟨f - 1, by omega⟩
    obtain ⟨G, D, a1, a2, a3⟩ := hA (x - t) (by omega)
    obtain ⟨G', D', b1, b2, b3⟩ := hA x (Nat.le_refl _)
    have m1 := a3.up (b := b) hd
    rw [ht] at m1
    have u9 : Bd9 (fun c F => ∃ c0, A (x - t) c0 F ∧ c = up1 c0 d b) := fun c F q => h9' x c F (Or.inr ⟨by omega, by rw [ht]; exact q⟩)
    have bd1 := m1.bd w hV u9
    have bd2 := b3.bd w hV (h9 x)
    have eD : lZ (D : Int) + lZ ((b * 10 ^ (15 - d) : Nat) : Int) = lZ ((D + b * 10 ^ (15 - d) : Nat) : Int) := by rw [L_add]; rfl
    have pb := e_better bd1 bd2 U
    have em : ∀ c F, ((A x c F ∨ ∃ c0, A (x - t) c0 F ∧ c = up1 c0 d b) ↔ bun r A d b x c F) := fun c F => by
      unfold bun
      rw [ht]
      exact ⟨fun z => z.imp id (fun z => ⟨by omega, z⟩), fun z => z.imp id (fun z => z.2)⟩
    by_cases c : G' < G + (1048576 * (b : Int) * (V d).1 - (t : Nat)) ∨ (G + (1048576 * (b : Int) * (V d).1 - (t : Nat)) = G' ∧ D + b * 10 ^ (15 - d) < D')
    · rw [decide_eq_true c, kB_t] at pb
      obtain ⟨W, w1, w2, w3⟩ := ih f (x - 1) (sL (sL U 35 x (lZ (G + (1048576 * (b : Int) * (V d).1 - (t : Nat))))) 36 x (lZ ((D + b * 10 ^ (15 - d) : Nat) : Int))) (by omega) (by omega) (by omega) ((hF.sL rfl _ _).sL rfl _ _) (fun m hm' => (hA m (by omega)).fr (by rw [s_Ln (by decide), s_LL, u_La, if_neg (by omega)]) (by rw [s_LL, u_La, if_neg (by omega), s_Ln (by decide)])) (fun m h1 h2 => by
        by_cases q : m = x
        · subst q
          exact ⟨_, _, by rw [s_Ln (by decide), s_LL, u_La, if_pos rfl], by rw [s_LL, u_La, if_pos rfl], (m1.l b3 c).iff em⟩
        · exact (hB m (by omega) h2).fr (by rw [s_Ln (by decide), s_LL, u_La, if_neg q]) (by rw [s_LL, u_La, if_neg q, s_Ln (by decide)]))
      refine ⟨W, ?_, w2, w3⟩
      rw [← w1, f_X2_offerBundle_72]
      simp (disch := omega) only [k_let, Option.bind_some, ↓reduceIte, eq_self, true_or, or_true, n01_0, n01_1, kb_or, kb_0T, kb_0F, vn_0, vn_1, vn_k, nl_0, nl_1, nl_2, nl_3, nl_4, nl_5, nl_6, nl_7, nl_8, nl_9, nl_10, nl_11, nl_12, nl_13, nl_14, nl_15, nl_16, nl_20, nl_21, nl_22, nl_23, nl_24, nl_25, nl_26, nl_27, nl_28, nl_29, nl_30, nl_31, nl_32, nl_40, nl_41, nl_42, nl_43, nl_45, nl_47, nl_48, nl_50, nl_57, nl_59, nl_60, nl_61, nl_62, nl_63, nl_64, nl_91, nl_93, nl_94, nl_97, nl_98, nl_100, nl_110, nl_122, nl_130, nl_144, nl_160, nl_240, nl_241, nl_255, nl_256, nl_400, nl_800, nl_900, nl_999, nl_1000, nl_1001, nl_1024, nl_1103, nl_1928, nl_4321, nl_5560, nl_12345, nl_1000000, nl_1000003, nl_252645135, nl_858993459, nl_1431655765, nl_1000000000, nI_add, pk_mul, n_sub, n_neg, n_cl, leT, leF, ltT, ltF, eqT, eqF, kbT, s_II, s_In, s_IJ, s_IA, s_IL, s_IR, s_IC, s_JI, s_JJ, s_Jn, s_JA, s_JL, s_JR, s_JC, s_AI, s_AJ, s_AA, s_An, s_AL, s_AR, s_AC, s_LI, s_LJ, s_LA, s_LL, s_Ln, s_LR, s_LC, a1, a2, b1, b2, L_add, eD, ↓b_of pb, f_X2_offerBundle_148, n_dn]
    · rw [decide_eq_false c, kB_f] at pb
      obtain ⟨W, w1, w2, w3⟩ := ih f (x - 1) U (by omega) (by omega) (by omega) hF (fun m hm' => hA m (by omega)) (fun m h1 h2 => by
        by_cases q : m = x
        · subst q
          exact ⟨_, _, b1, b2, (m1.r b3 c).iff em⟩
        · exact hB m (by omega) h2)
      refine ⟨W, ?_, w2, w3⟩
      rw [← w1, f_X2_offerBundle_72]
      simp (disch := omega) only [k_let, Option.bind_some, ↓reduceIte, eq_self, true_or, or_true, n01_0, n01_1, kb_or, kb_0T, kb_0F, vn_0, vn_1, vn_k, nl_0, nl_1, nl_2, nl_3, nl_4, nl_5, nl_6, nl_7, nl_8, nl_9, nl_10, nl_11, nl_12, nl_13, nl_14, nl_15, nl_16, nl_20, nl_21, nl_22, nl_23, nl_24, nl_25, nl_26, nl_27, nl_28, nl_29, nl_30, nl_31, nl_32, nl_40, nl_41, nl_42, nl_43, nl_45, nl_47, nl_48, nl_50, nl_57, nl_59, nl_60, nl_61, nl_62, nl_63, nl_64, nl_91, nl_93, nl_94, nl_97, nl_98, nl_100, nl_110, nl_122, nl_130, nl_144, nl_160, nl_240, nl_241, nl_255, nl_256, nl_400, nl_800, nl_900, nl_999, nl_1000, nl_1001, nl_1024, nl_1103, nl_1928, nl_4321, nl_5560, nl_12345, nl_1000000, nl_1000003, nl_252645135, nl_858993459, nl_1431655765, nl_1000000000, nI_add, pk_mul, n_sub, n_neg, n_cl, leT, leF, ltT, ltF, eqT, eqF, kbT, s_II, s_In, s_IJ, s_IA, s_IL, s_IR, s_IC, s_JI, s_JJ, s_Jn, s_JA, s_JL, s_JR, s_JC, s_AI, s_AJ, s_AA, s_An, s_AL, s_AR, s_AC, s_LI, s_LJ, s_LA, s_LL, s_Ln, s_LR, s_LC, a1, a2, b1, b2, L_add, eD, ↓b_of pb, f_X2_offerBundle_148, n_dn]
