/-! part d9: the class's parts, terms and sums, side by side with the reference -/
abbrev FC (S T : St) : Prop := Fr [10, 11, 13, 14, 15, 16] [] [24] [] S T
def Cs (t : Nat → Nat) (n a e q : Nat) (S : St) : Prop := Ctk t n a S ∧ gI S 10 = nI (2 * e) ∧ gI S 11 = nI q ∧ e ≤ 400 ∧ q ≤ 50
def COk (t : Nat → Nat) (n tb Tin Tout Lc Lq d : Nat) (S0 : St) (a0 e0 q0 : Nat) (S : St) (a e q : Nat) (δ : Den) : Prop :=
  Cs t n a e q S ∧ FC S0 S ∧ (∀ i, i < 2 * e0 → gA S 24 i = gA S0 24 i) ∧ e + a0 ≤ e0 + a ∧ q0 < q ∧ a0 < a ∧ Cm (Fc (gA S 24)) e0 e δ (q - q0) ∧ MOk t n tb Tin Tout Lc Lq d a0 q0 a q δ
def CRes (f : Option (Int32 × St)) (t : Nat → Nat) (n tb Tin Tout Lc Lq d : Nat) (S0 : St) (a0 e0 q0 : Nat) (LA : Nat → Prop) : Prop :=
  (∃ S a e q δ, f = some (nI 1, S) ∧ COk t n tb Tin Tout Lc Lq d S0 a0 e0 q0 S a e q δ ∧ LA a ∧ (Tout = 2 → T01 δ)) ∨
  (∃ S af e, f = some (nI 0, S) ∧ FC S0 S ∧ gI S 15 = nI af ∧ gI S 10 = nI (2 * e) ∧ e ≤ 400 ∧ MFl t n tb Tin Tout Lc d a0 q0 af)
theorem dC_op : ∀ op, op < 14 → 4 ≤ op → dC (nI op) (nI 0) = (op - 4, 0) := by decide +kernel
theorem Fc_at {a : Nat → Int32} {e : Nat} {x y : Int32} (h1 : a (2 * e) = x) (h2 : a (2 * e + 1) = y) : Fc a e = dC x y := by unfold Fc; rw [h1, h2]
theorem Fc_eq {a b : Nat → Int32} {p : Nat} (h : ∀ i, i < 2 * p + 2 → b i = a i) : Fc b p = Fc a p := by
  unfold Fc
  rw [h _ (by omega), h _ (by omega)]
theorem Cm.row {a b : Nat → Int32} {i j h : Nat} {δ : Den} (c : Cm (Fc a) i j δ h) (e : ∀ k, k < 2 * j → b k = a k) : Cm (Fc b) i j δ h := c.congr (fun p _ h2 => Fc_eq (fun k hk => e k (by omega)))
theorem Cs.step {t : Nat → Nat} {n a e q : Nat} {S : St} (h : Cs t n a e q S) : ∃ T, f_X7_step S = some T ∧ Fr [13, 14, 15, 16] [] [] [] S T ∧ Cs t n (tnx t n a) e q T := by
  obtain ⟨T, e1, e2, e3⟩ := h.1.step
  exact ⟨T, e1, e2, e3, (e2.I rfl).trans h.2.1, (e2.I rfl).trans h.2.2.1, h.2.2.2⟩
/-- what a bracket gives at depth d -/
def IB (t : Nat → Nat) (n tb : Nat) (ib : Int32 → Int32 → St → Option (Int32 × St)) (d : Nat) : Prop :=
  ∀ S a e q, Cs t n a e q S → e ≤ a →
    (isS t n a 91 = true → CRes (ib (nI d) (nI 93) S) t n tb 1 3 7 7 d S a e q (fun _ => True)) ∧
    (isS t n a 40 = true → CRes (ib (nI d) (nI 41) S) t n tb 0 2 4 3 d S a e q (fun _ => True))
theorem c_leaf {t : Nat → Nat} {n a e q : Nat} {S : St} (hS : Cs t n a e q S) (he : e ≤ a) (hk : kd t n a ≠ 0) (hq : q < 50) (x y : Int32) : ∃ T, ((f_X7_put x y (sI S 11 (nI (q + 1)))).bind fun q104 => f_X7_readPart_108 (fun _ _ _ => none) q104.2) = some (nI 1, T) ∧ Cs t n (tnx t n a) (e + 1) (q + 1) T ∧ FC S T ∧ (∀ i, i < 2 * e → gA T 24 i = gA S 24 i) ∧ Fc (gA T 24) e = dC x y := by
  have ha := kd_lt hk
  have hn := hS.1.1.1
  have f1 : Fr [11] [] [] [] S (sI S 11 (nI (q + 1))) := (Fr.refl S).sI rfl _
  have c1 : Ctk t n a (sI S 11 (nI (q + 1))) := hS.1.fr f1 rfl rfl rfl rfl rfl rfl
  obtain ⟨V, g1, g2, g3, g4, g5⟩ := e_put (S := sI S 11 (nI (q + 1))) (e := e) ((f1.I rfl).trans hS.2.1) (by omega) x y
  rw [show min (e + 1) 400 = e + 1 by omega] at g3
  have c2 : Cs t n a (e + 1) (q + 1) V := ⟨c1.fr g2 rfl rfl rfl rfl rfl rfl, g3, (g2.I rfl).trans (s_II _ _ _), by omega, by omega⟩
  obtain ⟨T, d1, d2, d3⟩ := c2.step
  obtain ⟨r1, r2⟩ := g5 (by omega)
  refine ⟨T, ?_, d3, ((f1.mono rfl rfl rfl rfl).trans (g2.mono rfl rfl rfl rfl)).trans (d2.mono rfl rfl rfl rfl), fun i hi => ?_, ?_⟩
  · rw [g1]
    simp only [Option.bind_some]
    unfold f_X7_readPart_108
    rw [d1]
    rfl
  · rw [d2.A rfl, g4 i hi]
    rfl
  · rw [d2.A rfl]
    exact Fc_at r1 r2
theorem c_part {t : Nat → Nat} {n tb a e q d : Nat} {ib : Int32 → Int32 → St → Option (Int32 × St)} {S : St} (hib : IB t n tb ib d) (hS : Cs t n a e q S) (he : e ≤ a) : CRes (f_X7_readPart ib (nI d) S) t n tb 1 3 7 7 d S a e q (fun _ => True) := by
  have k4 := kd_4 t n a
  have hn := hS.1.1.1
  by_cases hs : isS t n a 91 = true
  · rcases (hib S a e q hS he).1 hs with ⟨S1, a1, e1, q1, δ, r1, r⟩ | ⟨S1, af, e1, r1, r⟩
    · refine Or.inl ⟨S1, a1, e1, q1, δ, ?_, r⟩
      unfold f_X7_readPart
      simp (disch := omega) only [k_let, Option.bind_some, ↓reduceIte, eq_self, true_or, or_true, n01_0, n01_1, kb_or, kb_0T, kb_0F, vn_0, vn_1, vn_k, nl_0, nl_1, nl_2, nl_3, nl_4, nl_5, nl_6, nl_7, nl_8, nl_9, nl_10, nl_11, nl_12, nl_13, nl_14, nl_15, nl_16, nl_20, nl_21, nl_22, nl_23, nl_24, nl_25, nl_26, nl_27, nl_28, nl_29, nl_30, nl_31, nl_32, nl_40, nl_41, nl_42, nl_43, nl_45, nl_47, nl_48, nl_50, nl_57, nl_59, nl_60, nl_61, nl_62, nl_63, nl_64, nl_91, nl_93, nl_94, nl_97, nl_98, nl_100, nl_110, nl_122, nl_130, nl_144, nl_160, nl_240, nl_241, nl_255, nl_256, nl_400, nl_800, nl_900, nl_999, nl_1000, nl_1001, nl_1024, nl_1103, nl_1928, nl_4321, nl_5560, nl_12345, nl_1000000, nl_1000003, nl_252645135, nl_858993459, nl_1431655765, nl_1000000000, nI_add, pk_mul, n_sub, n_neg, n_cl, leT, leF, ltT, ltF, eqT, eqF, kbT, s_II, s_In, s_IJ, s_IA, s_IL, s_IR, s_IC, s_JI, s_JJ, s_Jn, s_JA, s_JL, s_JR, s_JC, s_AI, s_AJ, s_AA, s_An, s_AL, s_AR, s_AC, s_LI, s_LJ, s_LA, s_LL, s_Ln, s_LR, s_LC, e_seesSign hS.1, hs, kB_t, r1]
    · refine Or.inr ⟨S1, af, e1, ?_, r⟩
      unfold f_X7_readPart
      simp (disch := omega) only [k_let, Option.bind_some, ↓reduceIte, eq_self, true_or, or_true, n01_0, n01_1, kb_or, kb_0T, kb_0F, vn_0, vn_1, vn_k, nl_0, nl_1, nl_2, nl_3, nl_4, nl_5, nl_6, nl_7, nl_8, nl_9, nl_10, nl_11, nl_12, nl_13, nl_14, nl_15, nl_16, nl_20, nl_21, nl_22, nl_23, nl_24, nl_25, nl_26, nl_27, nl_28, nl_29, nl_30, nl_31, nl_32, nl_40, nl_41, nl_42, nl_43, nl_45, nl_47, nl_48, nl_50, nl_57, nl_59, nl_60, nl_61, nl_62, nl_63, nl_64, nl_91, nl_93, nl_94, nl_97, nl_98, nl_100, nl_110, nl_122, nl_130, nl_144, nl_160, nl_240, nl_241, nl_255, nl_256, nl_400, nl_800, nl_900, nl_999, nl_1000, nl_1001, nl_1024, nl_1103, nl_1928, nl_4321, nl_5560, nl_12345, nl_1000000, nl_1000003, nl_252645135, nl_858993459, nl_1431655765, nl_1000000000, nI_add, pk_mul, n_sub, n_neg, n_cl, leT, leF, ltT, ltF, eqT, eqF, kbT, s_II, s_In, s_IJ, s_IA, s_IL, s_IR, s_IC, s_JI, s_JJ, s_Jn, s_JA, s_JL, s_JR, s_JC, s_AI, s_AJ, s_AA, s_An, s_AL, s_AR, s_AC, s_LI, s_LJ, s_LA, s_LL, s_Ln, s_LR, s_LC, e_seesSign hS.1, hs, kB_t, r1]
  · have hs : isS t n a 91 = false := Bool.eq_false_iff.mpr hs
    have wlt : whN t n a ≤ 7 := by unfold whN; (repeat' split) <;> omega
    have e63 : ∀ (x2 x3 : Int32), f_X7_readPart_63 ib x2 x3 S = if q < 50 then (if x2 = 0 then (f_X7_put (nI 5) x3 (sI S 11 (nI (q + 1)))).bind fun q104 => f_X7_readPart_108 (fun _ _ _ => none) q104.2 else (f_X7_put (nI 4) (gI S 14) (sI S 11 (nI (q + 1)))).bind fun q104 => f_X7_readPart_108 (fun _ _ _ => none) q104.2) else some (nI 0, S) := fun x2 x3 => by
      have h11 := hS.2.2.1
      unfold f_X7_readPart_63 f_X7_readPart_72
      by_cases c : q < 50
      · rw [if_pos c]
        simp (disch := omega) only [k_let, Option.bind_some, ↓reduceIte, eq_self, true_or, or_true, n01_0, n01_1, kb_or, kb_0T, kb_0F, vn_0, vn_1, vn_k, nl_0, nl_1, nl_2, nl_3, nl_4, nl_5, nl_6, nl_7, nl_8, nl_9, nl_10, nl_11, nl_12, nl_13, nl_14, nl_15, nl_16, nl_20, nl_21, nl_22, nl_23, nl_24, nl_25, nl_26, nl_27, nl_28, nl_29, nl_30, nl_31, nl_32, nl_40, nl_41, nl_42, nl_43, nl_45, nl_47, nl_48, nl_50, nl_57, nl_59, nl_60, nl_61, nl_62, nl_63, nl_64, nl_91, nl_93, nl_94, nl_97, nl_98, nl_100, nl_110, nl_122, nl_130, nl_144, nl_160, nl_240, nl_241, nl_255, nl_256, nl_400, nl_800, nl_900, nl_999, nl_1000, nl_1001, nl_1024, nl_1103, nl_1928, nl_4321, nl_5560, nl_12345, nl_1000000, nl_1000003, nl_252645135, nl_858993459, nl_1431655765, nl_1000000000, nI_add, pk_mul, n_sub, n_neg, n_cl, leT, leF, ltT, ltF, eqT, eqF, kbT, s_II, s_In, s_IJ, s_IA, s_IL, s_IR, s_IC, s_JI, s_JJ, s_Jn, s_JA, s_JL, s_JR, s_JC, s_AI, s_AJ, s_AA, s_An, s_AL, s_AR, s_AC, s_LI, s_LJ, s_LA, s_LL, s_Ln, s_LR, s_LC, h11]
        rfl
      · rw [if_neg c]
        have := hS.2.2.2.2
        simp (disch := omega) only [k_let, Option.bind_some, ↓reduceIte, eq_self, true_or, or_true, n01_0, n01_1, kb_or, kb_0T, kb_0F, vn_0, vn_1, vn_k, nl_0, nl_1, nl_2, nl_3, nl_4, nl_5, nl_6, nl_7, nl_8, nl_9, nl_10, nl_11, nl_12, nl_13, nl_14, nl_15, nl_16, nl_20, nl_21, nl_22, nl_23, nl_24, nl_25, nl_26, nl_27, nl_28, nl_29, nl_30, nl_31, nl_32, nl_40, nl_41, nl_42, nl_43, nl_45, nl_47, nl_48, nl_50, nl_57, nl_59, nl_60, nl_61, nl_62, nl_63, nl_64, nl_91, nl_93, nl_94, nl_97, nl_98, nl_100, nl_110, nl_122, nl_130, nl_144, nl_160, nl_240, nl_241, nl_255, nl_256, nl_400, nl_800, nl_900, nl_999, nl_1000, nl_1001, nl_1024, nl_1103, nl_1928, nl_4321, nl_5560, nl_12345, nl_1000000, nl_1000003, nl_252645135, nl_858993459, nl_1431655765, nl_1000000000, nI_add, pk_mul, n_sub, n_neg, n_cl, leT, leF, ltT, ltF, eqT, eqF, kbT, s_II, s_In, s_IJ, s_IA, s_IL, s_IR, s_IC, s_JI, s_JJ, s_Jn, s_JA, s_JL, s_JR, s_JC, s_AI, s_AJ, s_AA, s_An, s_AL, s_AR, s_AC, s_LI, s_LJ, s_LA, s_LL, s_Ln, s_LR, s_LC, h11]
    have e0 : f_X7_readPart ib (nI d) S = if kd t n a = 2 then (if vl t a (en t n a - a) ≤ 1000 then f_X7_readPart_63 ib (nI 1) (iZ (-1)) S else some (nI 0, S)) else (if whN t n a = 7 then some (nI 0, S) else f_X7_readPart_63 ib (nI 0) (nI (whN t n a)) S) := by
      unfold f_X7_readPart f_X7_readPart_39 f_X7_readPart_40 f_X7_readPart_53 f_X7_readPart_72
      rw [show (91 : Int32) = nI 91 from rfl, e_seesSign hS.1 (by decide), hs]
      simp (disch := omega) only [k_let, Option.bind_some, ↓reduceIte, eq_self, true_or, or_true, n01_0, n01_1, kb_or, kb_0T, kb_0F, vn_0, vn_1, vn_k, nl_0, nl_1, nl_2, nl_3, nl_4, nl_5, nl_6, nl_7, nl_8, nl_9, nl_10, nl_11, nl_12, nl_13, nl_14, nl_15, nl_16, nl_20, nl_21, nl_22, nl_23, nl_24, nl_25, nl_26, nl_27, nl_28, nl_29, nl_30, nl_31, nl_32, nl_40, nl_41, nl_42, nl_43, nl_45, nl_47, nl_48, nl_50, nl_57, nl_59, nl_60, nl_61, nl_62, nl_63, nl_64, nl_91, nl_93, nl_94, nl_97, nl_98, nl_100, nl_110, nl_122, nl_130, nl_144, nl_160, nl_240, nl_241, nl_255, nl_256, nl_400, nl_800, nl_900, nl_999, nl_1000, nl_1001, nl_1024, nl_1103, nl_1928, nl_4321, nl_5560, nl_12345, nl_1000000, nl_1000003, nl_252645135, nl_858993459, nl_1431655765, nl_1000000000, kB_f, hS.1.2.2.2.2.1]
      by_cases k2 : kd t n a = 2
      · have h14 := hS.1.2.2.2.2.2 k2
        have hwh : whN t n a = 7 := by
          have : ∀ i, isW t n a i = false := fun i => by
            cases z : isW t n a i with
            | false => rfl
            | true => have := isW_kd z; omega
          unfold whN
          simp [this]
        rw [if_pos k2, k2, if_pos rfl, h14]
        by_cases hv : vl t a (en t n a - a) ≤ 1000
        · rw [if_pos hv, show min (vl t a (en t n a - a)) 1001 = vl t a (en t n a - a) by omega]
          simp (disch := omega) only [k_let, Option.bind_some, ↓reduceIte, eq_self, true_or, or_true, n01_0, n01_1, kb_or, kb_0T, kb_0F, vn_0, vn_1, vn_k, nl_0, nl_1, nl_2, nl_3, nl_4, nl_5, nl_6, nl_7, nl_8, nl_9, nl_10, nl_11, nl_12, nl_13, nl_14, nl_15, nl_16, nl_20, nl_21, nl_22, nl_23, nl_24, nl_25, nl_26, nl_27, nl_28, nl_29, nl_30, nl_31, nl_32, nl_40, nl_41, nl_42, nl_43, nl_45, nl_47, nl_48, nl_50, nl_57, nl_59, nl_60, nl_61, nl_62, nl_63, nl_64, nl_91, nl_93, nl_94, nl_97, nl_98, nl_100, nl_110, nl_122, nl_130, nl_144, nl_160, nl_240, nl_241, nl_255, nl_256, nl_400, nl_800, nl_900, nl_999, nl_1000, nl_1001, nl_1024, nl_1103, nl_1928, nl_4321, nl_5560, nl_12345, nl_1000000, nl_1000003, nl_252645135, nl_858993459, nl_1431655765, nl_1000000000, nI_add, pk_mul, n_sub, n_neg, n_cl, leT, leF, ltT, ltF, eqT, eqF, kbT, s_II, s_In, s_IJ, s_IA, s_IL, s_IR, s_IC, s_JI, s_JJ, s_Jn, s_JA, s_JL, s_JR, s_JC, s_AI, s_AJ, s_AA, s_An, s_AL, s_AR, s_AC, s_LI, s_LJ, s_LA, s_LL, s_Ln, s_LR, s_LC, zleT, zleF, zltT, zltF, zeqT, zeqF, nzleT, nzleF, nzltT, nzltF, nzeqT, nzeqF, znleT, znleF, znltT, znltF, zneqT, zneqF, z_add, z_sub, z_mul, z_neg, z_an, z_na, z_sn, z_ns, z_mn, z_nm]
          rfl
        · rw [if_neg hv, show min (vl t a (en t n a - a)) 1001 = 1001 by omega]
          simp (disch := omega) only [k_let, Option.bind_some, ↓reduceIte, eq_self, true_or, or_true, n01_0, n01_1, kb_or, kb_0T, kb_0F, vn_0, vn_1, vn_k, nl_0, nl_1, nl_2, nl_3, nl_4, nl_5, nl_6, nl_7, nl_8, nl_9, nl_10, nl_11, nl_12, nl_13, nl_14, nl_15, nl_16, nl_20, nl_21, nl_22, nl_23, nl_24, nl_25, nl_26, nl_27, nl_28, nl_29, nl_30, nl_31, nl_32, nl_40, nl_41, nl_42, nl_43, nl_45, nl_47, nl_48, nl_50, nl_57, nl_59, nl_60, nl_61, nl_62, nl_63, nl_64, nl_91, nl_93, nl_94, nl_97, nl_98, nl_100, nl_110, nl_122, nl_130, nl_144, nl_160, nl_240, nl_241, nl_255, nl_256, nl_400, nl_800, nl_900, nl_999, nl_1000, nl_1001, nl_1024, nl_1103, nl_1928, nl_4321, nl_5560, nl_12345, nl_1000000, nl_1000003, nl_252645135, nl_858993459, nl_1431655765, nl_1000000000, nI_add, pk_mul, n_sub, n_neg, n_cl, leT, leF, ltT, ltF, eqT, eqF, kbT, s_II, s_In, s_IJ, s_IA, s_IL, s_IR, s_IC, s_JI, s_JJ, s_Jn, s_JA, s_JL, s_JR, s_JC, s_AI, s_AJ, s_AA, s_An, s_AL, s_AR, s_AC, s_LI, s_LJ, s_LA, s_LL, s_Ln, s_LR, s_LC, zleT, zleF, zltT, zltF, zeqT, zeqF, nzleT, nzleF, nzltT, nzltF, nzeqT, nzeqF, znleT, znleF, znltT, znltF, zneqT, zneqF, z_add, z_sub, z_mul, z_neg, z_an, z_na, z_sn, z_ns, z_mn, z_nm]
          rw [e_wordHere hS.1, if_pos hwh]
          simp (disch := omega) only [k_let, Option.bind_some, ↓reduceIte, eq_self, true_or, or_true, n01_0, n01_1, kb_or, kb_0T, kb_0F, vn_0, vn_1, vn_k, nl_0, nl_1, nl_2, nl_3, nl_4, nl_5, nl_6, nl_7, nl_8, nl_9, nl_10, nl_11, nl_12, nl_13, nl_14, nl_15, nl_16, nl_20, nl_21, nl_22, nl_23, nl_24, nl_25, nl_26, nl_27, nl_28, nl_29, nl_30, nl_31, nl_32, nl_40, nl_41, nl_42, nl_43, nl_45, nl_47, nl_48, nl_50, nl_57, nl_59, nl_60, nl_61, nl_62, nl_63, nl_64, nl_91, nl_93, nl_94, nl_97, nl_98, nl_100, nl_110, nl_122, nl_130, nl_144, nl_160, nl_240, nl_241, nl_255, nl_256, nl_400, nl_800, nl_900, nl_999, nl_1000, nl_1001, nl_1024, nl_1103, nl_1928, nl_4321, nl_5560, nl_12345, nl_1000000, nl_1000003, nl_252645135, nl_858993459, nl_1431655765, nl_1000000000, nI_add, pk_mul, n_sub, n_neg, n_cl, leT, leF, ltT, ltF, eqT, eqF, kbT, s_II, s_In, s_IJ, s_IA, s_IL, s_IR, s_IC, s_JI, s_JJ, s_Jn, s_JA, s_JL, s_JR, s_JC, s_AI, s_AJ, s_AA, s_An, s_AL, s_AR, s_AC, s_LI, s_LJ, s_LA, s_LL, s_Ln, s_LR, s_LC, zleT, zleF, zltT, zltF, zeqT, zeqF, nzleT, nzleF, nzltT, nzltF, nzeqT, nzeqF, znleT, znleF, znltT, znltF, zneqT, zneqF, z_add, z_sub, z_mul, z_neg, z_an, z_na, z_sn, z_ns, z_mn, z_nm]
      · rw [if_neg k2, if_neg (by rw [n_eq (by omega) (by decide)]; exact k2)]
        simp (disch := omega) only [k_let, Option.bind_some, ↓reduceIte, eq_self, true_or, or_true, n01_0, n01_1, kb_or, kb_0T, kb_0F, vn_0, vn_1, vn_k, nl_0, nl_1, nl_2, nl_3, nl_4, nl_5, nl_6, nl_7, nl_8, nl_9, nl_10, nl_11, nl_12, nl_13, nl_14, nl_15, nl_16, nl_20, nl_21, nl_22, nl_23, nl_24, nl_25, nl_26, nl_27, nl_28, nl_29, nl_30, nl_31, nl_32, nl_40, nl_41, nl_42, nl_43, nl_45, nl_47, nl_48, nl_50, nl_57, nl_59, nl_60, nl_61, nl_62, nl_63, nl_64, nl_91, nl_93, nl_94, nl_97, nl_98, nl_100, nl_110, nl_122, nl_130, nl_144, nl_160, nl_240, nl_241, nl_255, nl_256, nl_400, nl_800, nl_900, nl_999, nl_1000, nl_1001, nl_1024, nl_1103, nl_1928, nl_4321, nl_5560, nl_12345, nl_1000000, nl_1000003, nl_252645135, nl_858993459, nl_1431655765, nl_1000000000, nI_add, pk_mul, n_sub, n_neg, n_cl, leT, leF, ltT, ltF, eqT, eqF, kbT, s_II, s_In, s_IJ, s_IA, s_IL, s_IR, s_IC, s_JI, s_JJ, s_Jn, s_JA, s_JL, s_JR, s_JC, s_AI, s_AJ, s_AA, s_An, s_AL, s_AR, s_AC, s_LI, s_LJ, s_LA, s_LL, s_Ln, s_LR, s_LC, zleT, zleF, zltT, zltF, zeqT, zeqF, nzleT, nzleF, nzltT, nzltF, nzeqT, nzeqF, znleT, znleF, znltT, znltF, zneqT, zneqF, z_add, z_sub, z_mul, z_neg, z_an, z_na, z_sn, z_ns, z_mn, z_nm]
        rw [e_wordHere hS.1]
        by_cases hw : whN t n a = 7
        · rw [if_pos hw, if_pos hw]
          simp (disch := omega) only [k_let, Option.bind_some, ↓reduceIte, eq_self, true_or, or_true, n01_0, n01_1, kb_or, kb_0T, kb_0F, vn_0, vn_1, vn_k, nl_0, nl_1, nl_2, nl_3, nl_4, nl_5, nl_6, nl_7, nl_8, nl_9, nl_10, nl_11, nl_12, nl_13, nl_14, nl_15, nl_16, nl_20, nl_21, nl_22, nl_23, nl_24, nl_25, nl_26, nl_27, nl_28, nl_29, nl_30, nl_31, nl_32, nl_40, nl_41, nl_42, nl_43, nl_45, nl_47, nl_48, nl_50, nl_57, nl_59, nl_60, nl_61, nl_62, nl_63, nl_64, nl_91, nl_93, nl_94, nl_97, nl_98, nl_100, nl_110, nl_122, nl_130, nl_144, nl_160, nl_240, nl_241, nl_255, nl_256, nl_400, nl_800, nl_900, nl_999, nl_1000, nl_1001, nl_1024, nl_1103, nl_1928, nl_4321, nl_5560, nl_12345, nl_1000000, nl_1000003, nl_252645135, nl_858993459, nl_1431655765, nl_1000000000, nI_add, pk_mul, n_sub, n_neg, n_cl, leT, leF, ltT, ltF, eqT, eqF, kbT, s_II, s_In, s_IJ, s_IA, s_IL, s_IR, s_IC, s_JI, s_JJ, s_Jn, s_JA, s_JL, s_JR, s_JC, s_AI, s_AJ, s_AA, s_An, s_AL, s_AR, s_AC, s_LI, s_LJ, s_LA, s_LL, s_Ln, s_LR, s_LC, zleT, zleF, zltT, zltF, zeqT, zeqF, nzleT, nzleF, nzltT, nzltF, nzeqT, nzeqF, znleT, znleF, znltT, znltF, zneqT, zneqF, z_add, z_sub, z_mul, z_neg, z_an, z_na, z_sn, z_ns, z_mn, z_nm]
        · rw [if_neg hw, if_neg hw]
          simp (disch := omega) only [k_let, Option.bind_some, ↓reduceIte, eq_self, true_or, or_true, n01_0, n01_1, kb_or, kb_0T, kb_0F, vn_0, vn_1, vn_k, nl_0, nl_1, nl_2, nl_3, nl_4, nl_5, nl_6, nl_7, nl_8, nl_9, nl_10, nl_11, nl_12, nl_13, nl_14, nl_15, nl_16, nl_20, nl_21, nl_22, nl_23, nl_24, nl_25, nl_26, nl_27, nl_28, nl_29, nl_30, nl_31, nl_32, nl_40, nl_41, nl_42, nl_43, nl_45, nl_47, nl_48, nl_50, nl_57, nl_59, nl_60, nl_61, nl_62, nl_63, nl_64, nl_91, nl_93, nl_94, nl_97, nl_98, nl_100, nl_110, nl_122, nl_130, nl_144, nl_160, nl_240, nl_241, nl_255, nl_256, nl_400, nl_800, nl_900, nl_999, nl_1000, nl_1001, nl_1024, nl_1103, nl_1928, nl_4321, nl_5560, nl_12345, nl_1000000, nl_1000003, nl_252645135, nl_858993459, nl_1431655765, nl_1000000000, nI_add, pk_mul, n_sub, n_neg, n_cl, leT, leF, ltT, ltF, eqT, eqF, kbT, s_II, s_In, s_IJ, s_IA, s_IL, s_IR, s_IC, s_JI, s_JJ, s_Jn, s_JA, s_JL, s_JR, s_JC, s_AI, s_AJ, s_AA, s_An, s_AL, s_AR, s_AC, s_LI, s_LJ, s_LA, s_LL, s_Ln, s_LR, s_LC, zleT, zleF, zltT, zltF, zeqT, zeqF, nzleT, nzleF, nzltT, nzltF, nzeqT, nzeqF, znleT, znleF, znltT, znltF, zneqT, zneqF, z_add, z_sub, z_mul, z_neg, z_an, z_na, z_sn, z_ns, z_mn, z_nm]
    have bad : f_X7_readPart ib (nI d) S = some (nI 0, S) → ((¬ (kd t n a = 2 ∧ vl t a (en t n a - a) ≤ 1000) ∧ whN t n a = 7) ∨ 50 ≤ q) → CRes (f_X7_readPart ib (nI d) S) t n tb 1 3 7 7 d S a e q (fun _ => True) := fun h1 h2 =>
      Or.inr ⟨S, a, e, h1, Fr.refl S, hS.1.2.2.1, hS.2.1, hS.2.2.2.1, MFl.part hs hS.2.2.2.2 h2⟩
    by_cases k2 : kd t n a = 2
    · rw [if_pos k2] at e0
      by_cases hv : vl t a (en t n a - a) ≤ 1000
      · rw [if_pos hv, e63] at e0
        by_cases hq : q < 50
        · have hx := tnx_lt (t := t) (n := n) (a := a) (by omega)
          rw [if_pos hq, if_neg (by decide)] at e0
          obtain ⟨T, g1, g2, g3, g4, g5⟩ := c_leaf hS he (by omega) hq (nI 4) (gI S 14)
          rw [hS.1.2.2.2.2.2 k2, show min (vl t a (en t n a - a)) 1001 = vl t a (en t n a - a) by omega] at g5
          refine Or.inl ⟨T, _, _, _, _, e0.trans g1, ⟨g2, g3, g4, by omega, by omega, hx.1, ?_, MOk.num k2 hv hq⟩, trivial, fun z => absurd z (by decide)⟩
          refine (Cm.num (v := ((vl t a (en t n a - a) : Nat) : Int)) ?_ (by omega) (by omega)).mono (by omega)
          rw [g5]
          generalize vl t a (en t n a - a) = V at hv
          unfold dC
          rw [if_neg (by rw [n_eq (by decide) (by decide), n_eq (by decide) (by decide)]; omega), if_pos (by rw [n_ti (by decide)]; omega), n_ti (by decide), n_ti (by omega)]
          rfl
        · rw [if_neg hq] at e0
          exact bad e0 (Or.inr (by omega))
      · rw [if_neg hv] at e0
        have hwh : whN t n a = 7 := by
          have : ∀ i, isW t n a i = false := fun i => by
            cases z : isW t n a i with
            | false => rfl
            | true => have := isW_kd z; omega
          unfold whN
          simp [this]
        exact bad e0 (Or.inl ⟨fun z => hv z.2, hwh⟩)
    · rw [if_neg k2] at e0
      by_cases hw : whN t n a = 7
      · rw [if_pos hw] at e0
        exact bad e0 (Or.inl ⟨fun z => k2 z.1, hw⟩)
      · rw [if_neg hw, e63] at e0
        by_cases hq : q < 50
        · have hk : kd t n a ≠ 0 := fun z => by
            have : ∀ i, isW t n a i = false := fun i => by
              cases z2 : isW t n a i with
              | false => rfl
              | true => have := isW_kd z2; omega
            unfold whN at hw
            simp [this] at hw
          have hx := tnx_lt hk
          rw [if_pos hq, if_pos (show nI 0 = (0 : Int32) from rfl)] at e0
          obtain ⟨T, g1, g2, g3, g4, g5⟩ := c_leaf hS he hk hq (nI 5) (nI (whN t n a))
          refine Or.inl ⟨T, _, _, _, _, e0.trans g1, ⟨g2, g3, g4, by omega, by omega, hx.1, ?_, MOk.word (by omega) hq⟩, trivial, fun z => absurd z (by decide)⟩
          refine (Cm.word (w := whN t n a) ?_ (by omega)).mono (by omega)
          rw [g5]
          have : ∀ w, w < 7 → dC (nI 5) (nI w) = (1, (w : Int)) := by decide +kernel
          exact this _ (by omega)
        · rw [if_neg hq] at e0
          exact bad e0 (Or.inr (by omega))
/-- one more joint of a Term -/
theorem c_Term_go {t : Nat → Nat} {n tb d a0 e0 q0 a e q ch co op : Nat} {S0 S : St} {δ : Den} (hop : (ch, co, op) ∈ [(42, 8, 22), (47, 9, 23)]) (he0 : e0 ≤ a0) (h : COk t n tb 1 3 6 6 d S0 a0 e0 q0 S a e q δ) (hs : isS t n a ch = true) {S1 : St} (f1 : Fr [13, 14, 15, 16] [] [] [] S S1) (c1 : Cs t n (tnx t n a) e q S1) {g : Option (Int32 × St)} {LA : Nat → Prop} (hr : CRes g t n tb 1 3 7 7 d S1 (tnx t n a) e q LA) :
    (∃ S2 S3 a2 e2 q2 δ2, g = some (nI 1, S2) ∧ f_X7_put (nI co) (nI 0) S2 = some (nI (2 * e2), S3) ∧ COk t n tb 1 3 6 6 d S0 a0 e0 q0 S3 a2 (e2 + 1) q2 (dBin (op - 18) δ δ2) ∧ a < a2 ∧ LA a2) ∨
    (∃ S2 S3 af e2 e3, g = some (nI 0, S2) ∧ f_X7_put (nI co) (nI 0) S2 = some (nI (2 * e2), S3) ∧ FC S0 S3 ∧ gI S3 15 = nI af ∧ gI S3 10 = nI (2 * e3) ∧ e3 ≤ 400 ∧ MFl t n tb 1 3 6 d a0 q0 af) := by
  obtain ⟨h1, h2, h3, h4, h5, h6, h7, h8⟩ := h
  have hx := tnx_lt (t := t) (n := n) (a := a) (by rw [(isS_kd hs).1]; decide)
  have hop2 : (ch, op, 6) ∈ [(43, 20, 5), (45, 21, 5), (42, 22, 6), (47, 23, 6)] ∧ co = op - 14 ∧ 20 ≤ op ∧ op ≤ 23 := by
    simp only [List.mem_cons, Prod.mk.injEq, List.not_mem_nil, or_false] at hop
    rcases hop with ⟨rfl, rfl, rfl⟩ | ⟨rfl, rfl, rfl⟩ <;> decide
  obtain ⟨o1, o2, o3, o4⟩ := hop2
  rcases hr with ⟨S2, a2, e2, q2, δ2, r1, ⟨b1, b2, b3, b4, b5, b6, b7, b8⟩, r3, -⟩ | ⟨S2, af, e2, r1, r2, r3, r4, r5, r6⟩
  · have hn := b1.1.1.1
    have ha2 := b1.1.2.1
    obtain ⟨S3, g1, g2, g3, g4, g5⟩ := e_put b1.2.1 b1.2.2.2.1 (nI co) (nI 0)
    rw [show min (e2 + 1) 400 = e2 + 1 by omega] at g3
    obtain ⟨w1, w2⟩ := g5 (by omega)
    have hcc := b7.1.1
    have hcc1 := h7.1.1
    refine Or.inl ⟨S2, S3, a2, e2, q2, δ2, r1, g1, ⟨⟨b1.1.fr g2 rfl rfl rfl rfl rfl rfl, g3, (g2.I rfl).trans b1.2.2.1, by omega, b1.2.2.2.2⟩, (h2.trans (f1.mono rfl rfl rfl rfl)).trans (b2.trans (g2.mono rfl rfl rfl rfl)), fun i hi => ?_, by omega, by omega, by omega, ?_, MOk.bin o1 h8 hs b8 h5 (by omega)⟩, by omega, r3⟩
    · rw [g4 i (by omega), b3 i (by omega), f1.A rfl, h3 i hi]
    · refine (Cm.bin (op := op - 18) (x := 0) ((h7.row (b := gA S3 24) (fun k hk => ?_))) (b7.row (b := gA S3 24) (fun k hk => g4 k hk)) ?_ (by omega) (by omega)).mono (by omega)
      · rw [g4 k (by omega), b3 k hk, f1.A rfl]
      · rw [Fc_at w1 w2, o2, dC_op _ (by omega) (by omega), show op - 14 - 4 = op - 18 by omega]
  · obtain ⟨S3, g1, g2, g3, -, -⟩ := e_put r4 r5 (nI co) (nI 0)
    exact Or.inr ⟨S2, S3, af, e2, _, r1, g1, (h2.trans (f1.mono rfl rfl rfl rfl)).trans (r2.trans (g2.mono rfl rfl rfl rfl)), (g2.I rfl).trans r3, g3, Nat.min_le_right _ _, MFl.bin o1 h8 hs r6⟩
theorem l_Term {t : Nat → Nat} {n tb d a0 e0 q0 : Nat} {ib : Int32 → Int32 → St → Option (Int32 × St)} {S0 : St} (hib : IB t n tb ib d) (he0 : e0 ≤ a0) : ∀ (m f x3 : Nat) (S : St) (a e q : Nat) (δ : Den), n - a ≤ m → m + 1 < f → x3 ≤ a → COk t n tb 1 3 6 6 d S0 a0 e0 q0 S a e q δ → True → CRes (f_X7_readTerm_8 ib f (nI d) (nI 1) (nI x3) S) t n tb 1 3 6 6 d S0 a0 e0 q0 (fun a => isS t n a 42 = false ∧ isS t n a 47 = false) := by
  intro m
  induction m with
  | zero =>
    intro f x3 S a e q δ hm hf hx h _
    obtain ⟨f, rfl⟩ : ∃ k, f = k + 1 := ⟨f - 1, by omega⟩
    have hn := h.1.1.1.1
    have han := h.1.1.2.1
    have k0 : kd t n a = 0 := by unfold kd; rw [if_pos (by omega)]
    have nos : ∀ c, isS t n a c = false := fun c => by unfold isS; rw [k0]; exact decide_eq_false (fun z => absurd z.1 (by decide))
    refine Or.inl ⟨S, a, e, q, δ, ?_, h, ⟨nos 42, nos 47⟩, fun z => absurd z (by decide)⟩
    rw [f_X7_readTerm_8]
    unfold f_X7_readTerm_79
    by_cases c : 400 ≤ x3
    · simp (disch := omega) only [k_let, Option.bind_some, ↓reduceIte, eq_self, true_or, or_true, n01_0, n01_1, kb_or, kb_0T, kb_0F, vn_0, vn_1, vn_k, nl_0, nl_1, nl_2, nl_3, nl_4, nl_5, nl_6, nl_7, nl_8, nl_9, nl_10, nl_11, nl_12, nl_13, nl_14, nl_15, nl_16, nl_20, nl_21, nl_22, nl_23, nl_24, nl_25, nl_26, nl_27, nl_28, nl_29, nl_30, nl_31, nl_32, nl_40, nl_41, nl_42, nl_43, nl_45, nl_47, nl_48, nl_50, nl_57, nl_59, nl_60, nl_61, nl_62, nl_63, nl_64, nl_91, nl_93, nl_94, nl_97, nl_98, nl_100, nl_110, nl_122, nl_130, nl_144, nl_160, nl_240, nl_241, nl_255, nl_256, nl_400, nl_800, nl_900, nl_999, nl_1000, nl_1001, nl_1024, nl_1103, nl_1928, nl_4321, nl_5560, nl_12345, nl_1000000, nl_1000003, nl_252645135, nl_858993459, nl_1431655765, nl_1000000000, nI_add, pk_mul, n_sub, n_neg, n_cl, leT, leF, ltT, ltF, eqT, eqF, kbT, s_II, s_In, s_IJ, s_IA, s_IL, s_IR, s_IC, s_JI, s_JJ, s_Jn, s_JA, s_JL, s_JR, s_JC, s_AI, s_AJ, s_AA, s_An, s_AL, s_AR, s_AC, s_LI, s_LJ, s_LA, s_LL, s_Ln, s_LR, s_LC]
    · simp (disch := omega) only [k_let, Option.bind_some, ↓reduceIte, eq_self, true_or, or_true, n01_0, n01_1, kb_or, kb_0T, kb_0F, vn_0, vn_1, vn_k, nl_0, nl_1, nl_2, nl_3, nl_4, nl_5, nl_6, nl_7, nl_8, nl_9, nl_10, nl_11, nl_12, nl_13, nl_14, nl_15, nl_16, nl_20, nl_21, nl_22, nl_23, nl_24, nl_25, nl_26, nl_27, nl_28, nl_29, nl_30, nl_31, nl_32, nl_40, nl_41, nl_42, nl_43, nl_45, nl_47, nl_48, nl_50, nl_57, nl_59, nl_60, nl_61, nl_62, nl_63, nl_64, nl_91, nl_93, nl_94, nl_97, nl_98, nl_100, nl_110, nl_122, nl_130, nl_144, nl_160, nl_240, nl_241, nl_255, nl_256, nl_400, nl_800, nl_900, nl_999, nl_1000, nl_1001, nl_1024, nl_1103, nl_1928, nl_4321, nl_5560, nl_12345, nl_1000000, nl_1000003, nl_252645135, nl_858993459, nl_1431655765, nl_1000000000, nI_add, pk_mul, n_sub, n_neg, n_cl, leT, leF, ltT, ltF, eqT, eqF, kbT, s_II, s_In, s_IJ, s_IA, s_IL, s_IR, s_IC, s_JI, s_JJ, s_Jn, s_JA, s_JL, s_JR, s_JC, s_AI, s_AJ, s_AA, s_An, s_AL, s_AR, s_AC, s_LI, s_LJ, s_LA, s_LL, s_Ln, s_LR, s_LC, e_seesSign h.1.1, nos, kB_f]
  | succ m ih =>
    intro f x3 S a e q δ hm hf hx h _
    obtain ⟨f, rfl⟩ : ∃ k, f = k + 1 := ⟨f - 1, by omega⟩
    have hn := h.1.1.1.1
    have han := h.1.1.2.1
    by_cases cx : 400 ≤ x3
    · have k0 : kd t n a = 0 := by unfold kd; rw [if_pos (by omega)]
      have nos : ∀ c, isS t n a c = false := fun c => by unfold isS; rw [k0]; exact decide_eq_false (fun z => absurd z.1 (by decide))
      refine Or.inl ⟨S, a, e, q, δ, ?_, h, ⟨nos 42, nos 47⟩, fun z => absurd z (by decide)⟩
      rw [f_X7_readTerm_8]
      unfold f_X7_readTerm_79
      simp (disch := omega) only [k_let, Option.bind_some, ↓reduceIte, eq_self, true_or, or_true, n01_0, n01_1, kb_or, kb_0T, kb_0F, vn_0, vn_1, vn_k, nl_0, nl_1, nl_2, nl_3, nl_4, nl_5, nl_6, nl_7, nl_8, nl_9, nl_10, nl_11, nl_12, nl_13, nl_14, nl_15, nl_16, nl_20, nl_21, nl_22, nl_23, nl_24, nl_25, nl_26, nl_27, nl_28, nl_29, nl_30, nl_31, nl_32, nl_40, nl_41, nl_42, nl_43, nl_45, nl_47, nl_48, nl_50, nl_57, nl_59, nl_60, nl_61, nl_62, nl_63, nl_64, nl_91, nl_93, nl_94, nl_97, nl_98, nl_100, nl_110, nl_122, nl_130, nl_144, nl_160, nl_240, nl_241, nl_255, nl_256, nl_400, nl_800, nl_900, nl_999, nl_1000, nl_1001, nl_1024, nl_1103, nl_1928, nl_4321, nl_5560, nl_12345, nl_1000000, nl_1000003, nl_252645135, nl_858993459, nl_1431655765, nl_1000000000, nI_add, pk_mul, n_sub, n_neg, n_cl, leT, leF, ltT, ltF, eqT, eqF, kbT, s_II, s_In, s_IJ, s_IA, s_IL, s_IR, s_IC, s_JI, s_JJ, s_Jn, s_JA, s_JL, s_JR, s_JC, s_AI, s_AJ, s_AA, s_An, s_AL, s_AR, s_AC, s_LI, s_LJ, s_LA, s_LL, s_Ln, s_LR, s_LC]
    · have go : ∀ ch co op, (ch, co, op) ∈ [(42, 8, 22), (47, 9, 23)] → isS t n a ch = true → f_X7_readTerm_8 ib (f + 1) (nI d) (nI 1) (nI x3) S = f_X7_readTerm_53 ib (f_X7_readTerm_8 ib f) (nI d) (nI x3) (nI co) S → CRes (f_X7_readTerm_8 ib (f + 1) (nI d) (nI 1) (nI x3) S) t n tb 1 3 6 6 d S0 a0 e0 q0 (fun a => isS t n a 42 = false ∧ isS t n a 47 = false) := by
        intro ch co op hop hs heq
        have hx1 := tnx_lt (t := t) (n := n) (a := a) (by rw [(isS_kd hs).1]; decide)
        obtain ⟨S1, d1, d2, d3⟩ := h.1.step
        have hea : e ≤ tnx t n a := by have := h.2.2.2.1; omega
        have hr := c_part hib d3 hea
        rw [heq]
        unfold f_X7_readTerm_53
        rw [d1]
        simp only [Option.bind_some]
        rcases c_Term_go hop he0 h hs d2 d3 hr with ⟨S2, S3, a2, e2, q2, δ2, r1, r2, r3, r4, r5⟩ | ⟨S2, S3, af, e2, e3, r1, r2, r3, r4, r5, r6, r7⟩
        · rw [r1]
          simp only [Option.bind_some]
          rw [show (0 : Int32) = nI 0 from rfl, r2]
          simp only [Option.bind_some]
          rw [show (1 : Int32) = nI 1 from rfl, nI_add]
          exact ih f (x3 + 1) S3 a2 (e2 + 1) q2 _ (by omega) (by omega) (by omega) r3 trivial
        · rw [r1]
          simp only [Option.bind_some]
          rw [show (0 : Int32) = nI 0 from rfl, r2]
          simp only [Option.bind_some]
          obtain ⟨f, rfl⟩ : ∃ k, f = k + 1 := ⟨f - 1, by omega⟩
          refine Or.inr ⟨S3, af, e3, ?_, r3, r4, r5, r6, r7⟩
          rw [f_X7_readTerm_8]
          unfold f_X7_readTerm_79
          by_cases c : 400 ≤ x3 + 1
          · simp (disch := omega) only [k_let, Option.bind_some, ↓reduceIte, eq_self, true_or, or_true, n01_0, n01_1, kb_or, kb_0T, kb_0F, vn_0, vn_1, vn_k, nl_0, nl_1, nl_2, nl_3, nl_4, nl_5, nl_6, nl_7, nl_8, nl_9, nl_10, nl_11, nl_12, nl_13, nl_14, nl_15, nl_16, nl_20, nl_21, nl_22, nl_23, nl_24, nl_25, nl_26, nl_27, nl_28, nl_29, nl_30, nl_31, nl_32, nl_40, nl_41, nl_42, nl_43, nl_45, nl_47, nl_48, nl_50, nl_57, nl_59, nl_60, nl_61, nl_62, nl_63, nl_64, nl_91, nl_93, nl_94, nl_97, nl_98, nl_100, nl_110, nl_122, nl_130, nl_144, nl_160, nl_240, nl_241, nl_255, nl_256, nl_400, nl_800, nl_900, nl_999, nl_1000, nl_1001, nl_1024, nl_1103, nl_1928, nl_4321, nl_5560, nl_12345, nl_1000000, nl_1000003, nl_252645135, nl_858993459, nl_1431655765, nl_1000000000, nI_add, pk_mul, n_sub, n_neg, n_cl, leT, leF, ltT, ltF, eqT, eqF, kbT, s_II, s_In, s_IJ, s_IA, s_IL, s_IR, s_IC, s_JI, s_JJ, s_Jn, s_JA, s_JL, s_JR, s_JC, s_AI, s_AJ, s_AA, s_An, s_AL, s_AR, s_AC, s_LI, s_LJ, s_LA, s_LL, s_Ln, s_LR, s_LC]
          · simp (disch := omega) only [k_let, Option.bind_some, ↓reduceIte, eq_self, true_or, or_true, n01_0, n01_1, kb_or, kb_0T, kb_0F, vn_0, vn_1, vn_k, nl_0, nl_1, nl_2, nl_3, nl_4, nl_5, nl_6, nl_7, nl_8, nl_9, nl_10, nl_11, nl_12, nl_13, nl_14, nl_15, nl_16, nl_20, nl_21, nl_22, nl_23, nl_24, nl_25, nl_26, nl_27, nl_28, nl_29, nl_30, nl_31, nl_32, nl_40, nl_41, nl_42, nl_43, nl_45, nl_47, nl_48, nl_50, nl_57, nl_59, nl_60, nl_61, nl_62, nl_63, nl_64, nl_91, nl_93, nl_94, nl_97, nl_98, nl_100, nl_110, nl_122, nl_130, nl_144, nl_160, nl_240, nl_241, nl_255, nl_256, nl_400, nl_800, nl_900, nl_999, nl_1000, nl_1001, nl_1024, nl_1103, nl_1928, nl_4321, nl_5560, nl_12345, nl_1000000, nl_1000003, nl_252645135, nl_858993459, nl_1431655765, nl_1000000000, nI_add, pk_mul, n_sub, n_neg, n_cl, leT, leF, ltT, ltF, eqT, eqF, kbT, s_II, s_In, s_IJ, s_IA, s_IL, s_IR, s_IC, s_JI, s_JJ, s_Jn, s_JA, s_JL, s_JR, s_JC, s_AI, s_AJ, s_AA, s_An, s_AL, s_AR, s_AC, s_LI, s_LJ, s_LA, s_LL, s_Ln, s_LR, s_LC]
      by_cases s1 : isS t n a 42 = true
      · refine go 42 8 22 (by decide) s1 ?_
        have hS := isS_of s1
        rw [f_X7_readTerm_8]
        unfold f_X7_readTerm_37
        simp (disch := omega) only [k_let, Option.bind_some, ↓reduceIte, eq_self, true_or, or_true, n01_0, n01_1, kb_or, kb_0T, kb_0F, vn_0, vn_1, vn_k, nl_0, nl_1, nl_2, nl_3, nl_4, nl_5, nl_6, nl_7, nl_8, nl_9, nl_10, nl_11, nl_12, nl_13, nl_14, nl_15, nl_16, nl_20, nl_21, nl_22, nl_23, nl_24, nl_25, nl_26, nl_27, nl_28, nl_29, nl_30, nl_31, nl_32, nl_40, nl_41, nl_42, nl_43, nl_45, nl_47, nl_48, nl_50, nl_57, nl_59, nl_60, nl_61, nl_62, nl_63, nl_64, nl_91, nl_93, nl_94, nl_97, nl_98, nl_100, nl_110, nl_122, nl_130, nl_144, nl_160, nl_240, nl_241, nl_255, nl_256, nl_400, nl_800, nl_900, nl_999, nl_1000, nl_1001, nl_1024, nl_1103, nl_1928, nl_4321, nl_5560, nl_12345, nl_1000000, nl_1000003, nl_252645135, nl_858993459, nl_1431655765, nl_1000000000, nI_add, pk_mul, n_sub, n_neg, n_cl, leT, leF, ltT, ltF, eqT, eqF, kbT, s_II, s_In, s_IJ, s_IA, s_IL, s_IR, s_IC, s_JI, s_JJ, s_Jn, s_JA, s_JL, s_JR, s_JC, s_AI, s_AJ, s_AA, s_An, s_AL, s_AR, s_AC, s_LI, s_LJ, s_LA, s_LL, s_Ln, s_LR, s_LC, e_seesSign h.1.1, s1, kB_t]
      · by_cases s2 : isS t n a 47 = true
        · refine go 47 9 23 (by decide) s2 ?_
          rw [f_X7_readTerm_8]
          unfold f_X7_readTerm_37
          simp (disch := omega) only [k_let, Option.bind_some, ↓reduceIte, eq_self, true_or, or_true, n01_0, n01_1, kb_or, kb_0T, kb_0F, vn_0, vn_1, vn_k, nl_0, nl_1, nl_2, nl_3, nl_4, nl_5, nl_6, nl_7, nl_8, nl_9, nl_10, nl_11, nl_12, nl_13, nl_14, nl_15, nl_16, nl_20, nl_21, nl_22, nl_23, nl_24, nl_25, nl_26, nl_27, nl_28, nl_29, nl_30, nl_31, nl_32, nl_40, nl_41, nl_42, nl_43, nl_45, nl_47, nl_48, nl_50, nl_57, nl_59, nl_60, nl_61, nl_62, nl_63, nl_64, nl_91, nl_93, nl_94, nl_97, nl_98, nl_100, nl_110, nl_122, nl_130, nl_144, nl_160, nl_240, nl_241, nl_255, nl_256, nl_400, nl_800, nl_900, nl_999, nl_1000, nl_1001, nl_1024, nl_1103, nl_1928, nl_4321, nl_5560, nl_12345, nl_1000000, nl_1000003, nl_252645135, nl_858993459, nl_1431655765, nl_1000000000, nI_add, pk_mul, n_sub, n_neg, n_cl, leT, leF, ltT, ltF, eqT, eqF, kbT, s_II, s_In, s_IJ, s_IA, s_IL, s_IR, s_IC, s_JI, s_JJ, s_Jn, s_JA, s_JL, s_JR, s_JC, s_AI, s_AJ, s_AA, s_An, s_AL, s_AR, s_AC, s_LI, s_LJ, s_LA, s_LL, s_Ln, s_LR, s_LC, e_seesSign h.1.1, Bool.eq_false_iff.mpr s1, s2, kB_t, kB_f]
        · refine Or.inl ⟨S, a, e, q, δ, ?_, h, ⟨Bool.eq_false_iff.mpr s1, Bool.eq_false_iff.mpr s2⟩, fun z => absurd z (by decide)⟩
          rw [f_X7_readTerm_8]
          unfold f_X7_readTerm_79
          simp (disch := omega) only [k_let, Option.bind_some, ↓reduceIte, eq_self, true_or, or_true, n01_0, n01_1, kb_or, kb_0T, kb_0F, vn_0, vn_1, vn_k, nl_0, nl_1, nl_2, nl_3, nl_4, nl_5, nl_6, nl_7, nl_8, nl_9, nl_10, nl_11, nl_12, nl_13, nl_14, nl_15, nl_16, nl_20, nl_21, nl_22, nl_23, nl_24, nl_25, nl_26, nl_27, nl_28, nl_29, nl_30, nl_31, nl_32, nl_40, nl_41, nl_42, nl_43, nl_45, nl_47, nl_48, nl_50, nl_57, nl_59, nl_60, nl_61, nl_62, nl_63, nl_64, nl_91, nl_93, nl_94, nl_97, nl_98, nl_100, nl_110, nl_122, nl_130, nl_144, nl_160, nl_240, nl_241, nl_255, nl_256, nl_400, nl_800, nl_900, nl_999, nl_1000, nl_1001, nl_1024, nl_1103, nl_1928, nl_4321, nl_5560, nl_12345, nl_1000000, nl_1000003, nl_252645135, nl_858993459, nl_1431655765, nl_1000000000, nI_add, pk_mul, n_sub, n_neg, n_cl, leT, leF, ltT, ltF, eqT, eqF, kbT, s_II, s_In, s_IJ, s_IA, s_IL, s_IR, s_IC, s_JI, s_JJ, s_Jn, s_JA, s_JL, s_JR, s_JC, s_AI, s_AJ, s_AA, s_An, s_AL, s_AR, s_AC, s_LI, s_LJ, s_LA, s_LL, s_Ln, s_LR, s_LC, e_seesSign h.1.1, Bool.eq_false_iff.mpr s1, Bool.eq_false_iff.mpr s2, kB_f]
theorem c_Term {t : Nat → Nat} {n tb a e q d : Nat} {ib : Int32 → Int32 → St → Option (Int32 × St)} {S : St} (hib : IB t n tb ib d) (hS : Cs t n a e q S) (he : e ≤ a) : CRes (f_X7_readTerm ib (nI d) S) t n tb 1 3 6 6 d S a e q (fun a => isS t n a 42 = false ∧ isS t n a 47 = false) := by
  have F1 : 1000 < FU := FU_ge (by decide)
  have hn := hS.1.1.1
  unfold f_X7_readTerm
  rcases c_part hib hS he with ⟨S1, a1, e1, q1, δ, r1, ⟨b1, b2, b3, b4, b5, b6, b7, b8⟩, r3, r4⟩ | ⟨S1, af, e1, r1, r2, r3, r4, r5, r6⟩
  · rw [r1]
    simp only [Option.bind_some]
    exact l_Term hib he (n - a1) FU 0 S1 a1 e1 q1 δ (Nat.le_refl _) (by omega) (by omega) ⟨b1, b2, b3, b4, b5, b6, b7, b8.mono (by decide) (by decide)⟩ trivial
  · rw [r1]
    simp only [Option.bind_some]
    obtain ⟨k, hk⟩ : ∃ k, FU = k + 1 := ⟨FU - 1, by omega⟩
    refine Or.inr ⟨S1, af, e1, ?_, r2, r3, r4, r5, r6.mono (by decide)⟩
    rw [hk, f_X7_readTerm_8]
    unfold f_X7_readTerm_79
    simp (disch := omega) only [k_let, Option.bind_some, ↓reduceIte, eq_self, true_or, or_true, n01_0, n01_1, kb_or, kb_0T, kb_0F, vn_0, vn_1, vn_k, nl_0, nl_1, nl_2, nl_3, nl_4, nl_5, nl_6, nl_7, nl_8, nl_9, nl_10, nl_11, nl_12, nl_13, nl_14, nl_15, nl_16, nl_20, nl_21, nl_22, nl_23, nl_24, nl_25, nl_26, nl_27, nl_28, nl_29, nl_30, nl_31, nl_32, nl_40, nl_41, nl_42, nl_43, nl_45, nl_47, nl_48, nl_50, nl_57, nl_59, nl_60, nl_61, nl_62, nl_63, nl_64, nl_91, nl_93, nl_94, nl_97, nl_98, nl_100, nl_110, nl_122, nl_130, nl_144, nl_160, nl_240, nl_241, nl_255, nl_256, nl_400, nl_800, nl_900, nl_999, nl_1000, nl_1001, nl_1024, nl_1103, nl_1928, nl_4321, nl_5560, nl_12345, nl_1000000, nl_1000003, nl_252645135, nl_858993459, nl_1431655765, nl_1000000000, nI_add, pk_mul, n_sub, n_neg, n_cl, leT, leF, ltT, ltF, eqT, eqF, kbT, s_II, s_In, s_IJ, s_IA, s_IL, s_IR, s_IC, s_JI, s_JJ, s_Jn, s_JA, s_JL, s_JR, s_JC, s_AI, s_AJ, s_AA, s_An, s_AL, s_AR, s_AC, s_LI, s_LJ, s_LA, s_LL, s_Ln, s_LR, s_LC]
/-- one more joint of a Sum -/
theorem c_Sum_go {t : Nat → Nat} {n tb d a0 e0 q0 a e q ch co op : Nat} {S0 S : St} {δ : Den} (hop : (ch, co, op) ∈ [(43, 6, 20), (45, 7, 21)]) (he0 : e0 ≤ a0) (h : COk t n tb 1 3 5 5 d S0 a0 e0 q0 S a e q δ) (hs : isS t n a ch = true) {S1 : St} (f1 : Fr [13, 14, 15, 16] [] [] [] S S1) (c1 : Cs t n (tnx t n a) e q S1) {g : Option (Int32 × St)} {LA : Nat → Prop} (hr : CRes g t n tb 1 3 6 6 d S1 (tnx t n a) e q LA) :
    (∃ S2 S3 a2 e2 q2 δ2, g = some (nI 1, S2) ∧ f_X7_put (nI co) (nI 0) S2 = some (nI (2 * e2), S3) ∧ COk t n tb 1 3 5 5 d S0 a0 e0 q0 S3 a2 (e2 + 1) q2 (dBin (op - 18) δ δ2) ∧ a < a2 ∧ LA a2) ∨
    (∃ S2 S3 af e2 e3, g = some (nI 0, S2) ∧ f_X7_put (nI co) (nI 0) S2 = some (nI (2 * e2), S3) ∧ FC S0 S3 ∧ gI S3 15 = nI af ∧ gI S3 10 = nI (2 * e3) ∧ e3 ≤ 400 ∧ MFl t n tb 1 3 5 d a0 q0 af) := by
  obtain ⟨h1, h2, h3, h4, h5, h6, h7, h8⟩ := h
  have hx := tnx_lt (t := t) (n := n) (a := a) (by rw [(isS_kd hs).1]; decide)
  have hop2 : (ch, op, 5) ∈ [(43, 20, 5), (45, 21, 5), (42, 22, 6), (47, 23, 6)] ∧ co = op - 14 ∧ 20 ≤ op ∧ op ≤ 23 := by
    simp only [List.mem_cons, Prod.mk.injEq, List.not_mem_nil, or_false] at hop
    rcases hop with ⟨rfl, rfl, rfl⟩ | ⟨rfl, rfl, rfl⟩ <;> decide
  obtain ⟨o1, o2, o3, o4⟩ := hop2
  rcases hr with ⟨S2, a2, e2, q2, δ2, r1, ⟨b1, b2, b3, b4, b5, b6, b7, b8⟩, r3, -⟩ | ⟨S2, af, e2, r1, r2, r3, r4, r5, r6⟩
  · have hn := b1.1.1.1
    have ha2 := b1.1.2.1
    obtain ⟨S3, g1, g2, g3, g4, g5⟩ := e_put b1.2.1 b1.2.2.2.1 (nI co) (nI 0)
    rw [show min (e2 + 1) 400 = e2 + 1 by omega] at g3
    obtain ⟨w1, w2⟩ := g5 (by omega)
    have hcc := b7.1.1
    have hcc1 := h7.1.1
    refine Or.inl ⟨S2, S3, a2, e2, q2, δ2, r1, g1, ⟨⟨b1.1.fr g2 rfl rfl rfl rfl rfl rfl, g3, (g2.I rfl).trans b1.2.2.1, by omega, b1.2.2.2.2⟩, (h2.trans (f1.mono rfl rfl rfl rfl)).trans (b2.trans (g2.mono rfl rfl rfl rfl)), fun i hi => ?_, by omega, by omega, by omega, ?_, MOk.bin o1 h8 hs b8 h5 (by omega)⟩, by omega, r3⟩
    · rw [g4 i (by omega), b3 i (by omega), f1.A rfl, h3 i hi]
    · refine (Cm.bin (op := op - 18) (x := 0) ((h7.row (b := gA S3 24) (fun k hk => ?_))) (b7.row (b := gA S3 24) (fun k hk => g4 k hk)) ?_ (by omega) (by omega)).mono (by omega)
      · rw [g4 k (by omega), b3 k hk, f1.A rfl]
      · rw [Fc_at w1 w2, o2, dC_op _ (by omega) (by omega), show op - 14 - 4 = op - 18 by omega]
  · obtain ⟨S3, g1, g2, g3, -, -⟩ := e_put r4 r5 (nI co) (nI 0)
    exact Or.inr ⟨S2, S3, af, e2, _, r1, g1, (h2.trans (f1.mono rfl rfl rfl rfl)).trans (r2.trans (g2.mono rfl rfl rfl rfl)), (g2.I rfl).trans r3, g3, Nat.min_le_right _ _, MFl.bin o1 h8 hs r6⟩
theorem l_Sum {t : Nat → Nat} {n tb d a0 e0 q0 : Nat} {ib : Int32 → Int32 → St → Option (Int32 × St)} {S0 : St} (hib : IB t n tb ib d) (he0 : e0 ≤ a0) : ∀ (m f x3 : Nat) (S : St) (a e q : Nat) (δ : Den), n - a ≤ m → m + 1 < f → x3 ≤ a → COk t n tb 1 3 5 5 d S0 a0 e0 q0 S a e q δ → (isS t n a 42 = false ∧ isS t n a 47 = false) → CRes (f_X7_readSum_8 ib f (nI d) (nI 1) (nI x3) S) t n tb 1 3 5 5 d S0 a0 e0 q0 (fun a => NoA t n a) := by
  intro m
  induction m with
  | zero =>
    intro f x3 S a e q δ hm hf hx h hla
    obtain ⟨f, rfl⟩ : ∃ k, f = k + 1 := ⟨f - 1, by omega⟩
    have hn := h.1.1.1.1
    have han := h.1.1.2.1
    have k0 : kd t n a = 0 := by unfold kd; rw [if_pos (by omega)]
    have nos : ∀ c, isS t n a c = false := fun c => by unfold isS; rw [k0]; exact decide_eq_false (fun z => absurd z.1 (by decide))
    refine Or.inl ⟨S, a, e, q, δ, ?_, h, ⟨nos 43, nos 45, nos 42, nos 47⟩, fun z => absurd z (by decide)⟩
    rw [f_X7_readSum_8]
    unfold f_X7_readSum_79
    by_cases c : 400 ≤ x3
    · simp (disch := omega) only [k_let, Option.bind_some, ↓reduceIte, eq_self, true_or, or_true, n01_0, n01_1, kb_or, kb_0T, kb_0F, vn_0, vn_1, vn_k, nl_0, nl_1, nl_2, nl_3, nl_4, nl_5, nl_6, nl_7, nl_8, nl_9, nl_10, nl_11, nl_12, nl_13, nl_14, nl_15, nl_16, nl_20, nl_21, nl_22, nl_23, nl_24, nl_25, nl_26, nl_27, nl_28, nl_29, nl_30, nl_31, nl_32, nl_40, nl_41, nl_42, nl_43, nl_45, nl_47, nl_48, nl_50, nl_57, nl_59, nl_60, nl_61, nl_62, nl_63, nl_64, nl_91, nl_93, nl_94, nl_97, nl_98, nl_100, nl_110, nl_122, nl_130, nl_144, nl_160, nl_240, nl_241, nl_255, nl_256, nl_400, nl_800, nl_900, nl_999, nl_1000, nl_1001, nl_1024, nl_1103, nl_1928, nl_4321, nl_5560, nl_12345, nl_1000000, nl_1000003, nl_252645135, nl_858993459, nl_1431655765, nl_1000000000, nI_add, pk_mul, n_sub, n_neg, n_cl, leT, leF, ltT, ltF, eqT, eqF, kbT, s_II, s_In, s_IJ, s_IA, s_IL, s_IR, s_IC, s_JI, s_JJ, s_Jn, s_JA, s_JL, s_JR, s_JC, s_AI, s_AJ, s_AA, s_An, s_AL, s_AR, s_AC, s_LI, s_LJ, s_LA, s_LL, s_Ln, s_LR, s_LC]
    · simp (disch := omega) only [k_let, Option.bind_some, ↓reduceIte, eq_self, true_or, or_true, n01_0, n01_1, kb_or, kb_0T, kb_0F, vn_0, vn_1, vn_k, nl_0, nl_1, nl_2, nl_3, nl_4, nl_5, nl_6, nl_7, nl_8, nl_9, nl_10, nl_11, nl_12, nl_13, nl_14, nl_15, nl_16, nl_20, nl_21, nl_22, nl_23, nl_24, nl_25, nl_26, nl_27, nl_28, nl_29, nl_30, nl_31, nl_32, nl_40, nl_41, nl_42, nl_43, nl_45, nl_47, nl_48, nl_50, nl_57, nl_59, nl_60, nl_61, nl_62, nl_63, nl_64, nl_91, nl_93, nl_94, nl_97, nl_98, nl_100, nl_110, nl_122, nl_130, nl_144, nl_160, nl_240, nl_241, nl_255, nl_256, nl_400, nl_800, nl_900, nl_999, nl_1000, nl_1001, nl_1024, nl_1103, nl_1928, nl_4321, nl_5560, nl_12345, nl_1000000, nl_1000003, nl_252645135, nl_858993459, nl_1431655765, nl_1000000000, nI_add, pk_mul, n_sub, n_neg, n_cl, leT, leF, ltT, ltF, eqT, eqF, kbT, s_II, s_In, s_IJ, s_IA, s_IL, s_IR, s_IC, s_JI, s_JJ, s_Jn, s_JA, s_JL, s_JR, s_JC, s_AI, s_AJ, s_AA, s_An, s_AL, s_AR, s_AC, s_LI, s_LJ, s_LA, s_LL, s_Ln, s_LR, s_LC, e_seesSign h.1.1, nos, kB_f]
  | succ m ih =>
    intro f x3 S a e q δ hm hf hx h hla
    obtain ⟨f, rfl⟩ : ∃ k, f = k + 1 := ⟨f - 1, by omega⟩
    have hn := h.1.1.1.1
    have han := h.1.1.2.1
    by_cases cx : 400 ≤ x3
    · have k0 : kd t n a = 0 := by unfold kd; rw [if_pos (by omega)]
      have nos : ∀ c, isS t n a c = false := fun c => by unfold isS; rw [k0]; exact decide_eq_false (fun z => absurd z.1 (by decide))
      refine Or.inl ⟨S, a, e, q, δ, ?_, h, ⟨nos 43, nos 45, nos 42, nos 47⟩, fun z => absurd z (by decide)⟩
      rw [f_X7_readSum_8]
      unfold f_X7_readSum_79
      simp (disch := omega) only [k_let, Option.bind_some, ↓reduceIte, eq_self, true_or, or_true, n01_0, n01_1, kb_or, kb_0T, kb_0F, vn_0, vn_1, vn_k, nl_0, nl_1, nl_2, nl_3, nl_4, nl_5, nl_6, nl_7, nl_8, nl_9, nl_10, nl_11, nl_12, nl_13, nl_14, nl_15, nl_16, nl_20, nl_21, nl_22, nl_23, nl_24, nl_25, nl_26, nl_27, nl_28, nl_29, nl_30, nl_31, nl_32, nl_40, nl_41, nl_42, nl_43, nl_45, nl_47, nl_48, nl_50, nl_57, nl_59, nl_60, nl_61, nl_62, nl_63, nl_64, nl_91, nl_93, nl_94, nl_97, nl_98, nl_100, nl_110, nl_122, nl_130, nl_144, nl_160, nl_240, nl_241, nl_255, nl_256, nl_400, nl_800, nl_900, nl_999, nl_1000, nl_1001, nl_1024, nl_1103, nl_1928, nl_4321, nl_5560, nl_12345, nl_1000000, nl_1000003, nl_252645135, nl_858993459, nl_1431655765, nl_1000000000, nI_add, pk_mul, n_sub, n_neg, n_cl, leT, leF, ltT, ltF, eqT, eqF, kbT, s_II, s_In, s_IJ, s_IA, s_IL, s_IR, s_IC, s_JI, s_JJ, s_Jn, s_JA, s_JL, s_JR, s_JC, s_AI, s_AJ, s_AA, s_An, s_AL, s_AR, s_AC, s_LI, s_LJ, s_LA, s_LL, s_Ln, s_LR, s_LC]
    · have go : ∀ ch co op, (ch, co, op) ∈ [(43, 6, 20), (45, 7, 21)] → isS t n a ch = true → f_X7_readSum_8 ib (f + 1) (nI d) (nI 1) (nI x3) S = f_X7_readSum_53 ib (f_X7_readSum_8 ib f) (nI d) (nI x3) (nI co) S → CRes (f_X7_readSum_8 ib (f + 1) (nI d) (nI 1) (nI x3) S) t n tb 1 3 5 5 d S0 a0 e0 q0 (fun a => NoA t n a) := by
        intro ch co op hop hs heq
        have hx1 := tnx_lt (t := t) (n := n) (a := a) (by rw [(isS_kd hs).1]; decide)
        obtain ⟨S1, d1, d2, d3⟩ := h.1.step
        have hea : e ≤ tnx t n a := by have := h.2.2.2.1; omega
        have hr := c_Term hib d3 hea
        rw [heq]
        unfold f_X7_readSum_53
        rw [d1]
        simp only [Option.bind_some]
        rcases c_Sum_go hop he0 h hs d2 d3 hr with ⟨S2, S3, a2, e2, q2, δ2, r1, r2, r3, r4, r5⟩ | ⟨S2, S3, af, e2, e3, r1, r2, r3, r4, r5, r6, r7⟩
        · rw [r1]
          simp only [Option.bind_some]
          rw [show (0 : Int32) = nI 0 from rfl, r2]
          simp only [Option.bind_some]
          rw [show (1 : Int32) = nI 1 from rfl, nI_add]
          exact ih f (x3 + 1) S3 a2 (e2 + 1) q2 _ (by omega) (by omega) (by omega) r3 r5
        · rw [r1]
          simp only [Option.bind_some]
          rw [show (0 : Int32) = nI 0 from rfl, r2]
          simp only [Option.bind_some]
          obtain ⟨f, rfl⟩ : ∃ k, f = k + 1 := ⟨f - 1, by omega⟩
          refine Or.inr ⟨S3, af, e3, ?_, r3, r4, r5, r6, r7⟩
          rw [f_X7_readSum_8]
          unfold f_X7_readSum_79
          by_cases c : 400 ≤ x3 + 1
          · simp (disch := omega) only [k_let, Option.bind_some, ↓reduceIte, eq_self, true_or, or_true, n01_0, n01_1, kb_or, kb_0T, kb_0F, vn_0, vn_1, vn_k, nl_0, nl_1, nl_2, nl_3, nl_4, nl_5, nl_6, nl_7, nl_8, nl_9, nl_10, nl_11, nl_12, nl_13, nl_14, nl_15, nl_16, nl_20, nl_21, nl_22, nl_23, nl_24, nl_25, nl_26, nl_27, nl_28, nl_29, nl_30, nl_31, nl_32, nl_40, nl_41, nl_42, nl_43, nl_45, nl_47, nl_48, nl_50, nl_57, nl_59, nl_60, nl_61, nl_62, nl_63, nl_64, nl_91, nl_93, nl_94, nl_97, nl_98, nl_100, nl_110, nl_122, nl_130, nl_144, nl_160, nl_240, nl_241, nl_255, nl_256, nl_400, nl_800, nl_900, nl_999, nl_1000, nl_1001, nl_1024, nl_1103, nl_1928, nl_4321, nl_5560, nl_12345, nl_1000000, nl_1000003, nl_252645135, nl_858993459, nl_1431655765, nl_1000000000, nI_add, pk_mul, n_sub, n_neg, n_cl, leT, leF, ltT, ltF, eqT, eqF, kbT, s_II, s_In, s_IJ, s_IA, s_IL, s_IR, s_IC, s_JI, s_JJ, s_Jn, s_JA, s_JL, s_JR, s_JC, s_AI, s_AJ, s_AA, s_An, s_AL, s_AR, s_AC, s_LI, s_LJ, s_LA, s_LL, s_Ln, s_LR, s_LC]
          · simp (disch := omega) only [k_let, Option.bind_some, ↓reduceIte, eq_self, true_or, or_true, n01_0, n01_1, kb_or, kb_0T, kb_0F, vn_0, vn_1, vn_k, nl_0, nl_1, nl_2, nl_3, nl_4, nl_5, nl_6, nl_7, nl_8, nl_9, nl_10, nl_11, nl_12, nl_13, nl_14, nl_15, nl_16, nl_20, nl_21, nl_22, nl_23, nl_24, nl_25, nl_26, nl_27, nl_28, nl_29, nl_30, nl_31, nl_32, nl_40, nl_41, nl_42, nl_43, nl_45, nl_47, nl_48, nl_50, nl_57, nl_59, nl_60, nl_61, nl_62, nl_63, nl_64, nl_91, nl_93, nl_94, nl_97, nl_98, nl_100, nl_110, nl_122, nl_130, nl_144, nl_160, nl_240, nl_241, nl_255, nl_256, nl_400, nl_800, nl_900, nl_999, nl_1000, nl_1001, nl_1024, nl_1103, nl_1928, nl_4321, nl_5560, nl_12345, nl_1000000, nl_1000003, nl_252645135, nl_858993459, nl_1431655765, nl_1000000000, nI_add, pk_mul, n_sub, n_neg, n_cl, leT, leF, ltT, ltF, eqT, eqF, kbT, s_II, s_In, s_IJ, s_IA, s_IL, s_IR, s_IC, s_JI, s_JJ, s_Jn, s_JA, s_JL, s_JR, s_JC, s_AI, s_AJ, s_AA, s_An, s_AL, s_AR, s_AC, s_LI, s_LJ, s_LA, s_LL, s_Ln, s_LR, s_LC]
      by_cases s1 : isS t n a 43 = true
      · refine go 43 6 20 (by decide) s1 ?_
        have hS := isS_of s1
        rw [f_X7_readSum_8]
        unfold f_X7_readSum_37
        simp (disch := omega) only [k_let, Option.bind_some, ↓reduceIte, eq_self, true_or, or_true, n01_0, n01_1, kb_or, kb_0T, kb_0F, vn_0, vn_1, vn_k, nl_0, nl_1, nl_2, nl_3, nl_4, nl_5, nl_6, nl_7, nl_8, nl_9, nl_10, nl_11, nl_12, nl_13, nl_14, nl_15, nl_16, nl_20, nl_21, nl_22, nl_23, nl_24, nl_25, nl_26, nl_27, nl_28, nl_29, nl_30, nl_31, nl_32, nl_40, nl_41, nl_42, nl_43, nl_45, nl_47, nl_48, nl_50, nl_57, nl_59, nl_60, nl_61, nl_62, nl_63, nl_64, nl_91, nl_93, nl_94, nl_97, nl_98, nl_100, nl_110, nl_122, nl_130, nl_144, nl_160, nl_240, nl_241, nl_255, nl_256, nl_400, nl_800, nl_900, nl_999, nl_1000, nl_1001, nl_1024, nl_1103, nl_1928, nl_4321, nl_5560, nl_12345, nl_1000000, nl_1000003, nl_252645135, nl_858993459, nl_1431655765, nl_1000000000, nI_add, pk_mul, n_sub, n_neg, n_cl, leT, leF, ltT, ltF, eqT, eqF, kbT, s_II, s_In, s_IJ, s_IA, s_IL, s_IR, s_IC, s_JI, s_JJ, s_Jn, s_JA, s_JL, s_JR, s_JC, s_AI, s_AJ, s_AA, s_An, s_AL, s_AR, s_AC, s_LI, s_LJ, s_LA, s_LL, s_Ln, s_LR, s_LC, e_seesSign h.1.1, s1, kB_t]
      · by_cases s2 : isS t n a 45 = true
        · refine go 45 7 21 (by decide) s2 ?_
          rw [f_X7_readSum_8]
          unfold f_X7_readSum_37
          simp (disch := omega) only [k_let, Option.bind_some, ↓reduceIte, eq_self, true_or, or_true, n01_0, n01_1, kb_or, kb_0T, kb_0F, vn_0, vn_1, vn_k, nl_0, nl_1, nl_2, nl_3, nl_4, nl_5, nl_6, nl_7, nl_8, nl_9, nl_10, nl_11, nl_12, nl_13, nl_14, nl_15, nl_16, nl_20, nl_21, nl_22, nl_23, nl_24, nl_25, nl_26, nl_27, nl_28, nl_29, nl_30, nl_31, nl_32, nl_40, nl_41, nl_42, nl_43, nl_45, nl_47, nl_48, nl_50, nl_57, nl_59, nl_60, nl_61, nl_62, nl_63, nl_64, nl_91, nl_93, nl_94, nl_97, nl_98, nl_100, nl_110, nl_122, nl_130, nl_144, nl_160, nl_240, nl_241, nl_255, nl_256, nl_400, nl_800, nl_900, nl_999, nl_1000, nl_1001, nl_1024, nl_1103, nl_1928, nl_4321, nl_5560, nl_12345, nl_1000000, nl_1000003, nl_252645135, nl_858993459, nl_1431655765, nl_1000000000, nI_add, pk_mul, n_sub, n_neg, n_cl, leT, leF, ltT, ltF, eqT, eqF, kbT, s_II, s_In, s_IJ, s_IA, s_IL, s_IR, s_IC, s_JI, s_JJ, s_Jn, s_JA, s_JL, s_JR, s_JC, s_AI, s_AJ, s_AA, s_An, s_AL, s_AR, s_AC, s_LI, s_LJ, s_LA, s_LL, s_Ln, s_LR, s_LC, e_seesSign h.1.1, Bool.eq_false_iff.mpr s1, s2, kB_t, kB_f]
        · refine Or.inl ⟨S, a, e, q, δ, ?_, h, ⟨Bool.eq_false_iff.mpr s1, Bool.eq_false_iff.mpr s2, hla.1, hla.2⟩, fun z => absurd z (by decide)⟩
          rw [f_X7_readSum_8]
          unfold f_X7_readSum_79
          simp (disch := omega) only [k_let, Option.bind_some, ↓reduceIte, eq_self, true_or, or_true, n01_0, n01_1, kb_or, kb_0T, kb_0F, vn_0, vn_1, vn_k, nl_0, nl_1, nl_2, nl_3, nl_4, nl_5, nl_6, nl_7, nl_8, nl_9, nl_10, nl_11, nl_12, nl_13, nl_14, nl_15, nl_16, nl_20, nl_21, nl_22, nl_23, nl_24, nl_25, nl_26, nl_27, nl_28, nl_29, nl_30, nl_31, nl_32, nl_40, nl_41, nl_42, nl_43, nl_45, nl_47, nl_48, nl_50, nl_57, nl_59, nl_60, nl_61, nl_62, nl_63, nl_64, nl_91, nl_93, nl_94, nl_97, nl_98, nl_100, nl_110, nl_122, nl_130, nl_144, nl_160, nl_240, nl_241, nl_255, nl_256, nl_400, nl_800, nl_900, nl_999, nl_1000, nl_1001, nl_1024, nl_1103, nl_1928, nl_4321, nl_5560, nl_12345, nl_1000000, nl_1000003, nl_252645135, nl_858993459, nl_1431655765, nl_1000000000, nI_add, pk_mul, n_sub, n_neg, n_cl, leT, leF, ltT, ltF, eqT, eqF, kbT, s_II, s_In, s_IJ, s_IA, s_IL, s_IR, s_IC, s_JI, s_JJ, s_Jn, s_JA, s_JL, s_JR, s_JC, s_AI, s_AJ, s_AA, s_An, s_AL, s_AR, s_AC, s_LI, s_LJ, s_LA, s_LL, s_Ln, s_LR, s_LC, e_seesSign h.1.1, Bool.eq_false_iff.mpr s1, Bool.eq_false_iff.mpr s2, kB_f]
theorem c_Sum {t : Nat → Nat} {n tb a e q d : Nat} {ib : Int32 → Int32 → St → Option (Int32 × St)} {S : St} (hib : IB t n tb ib d) (hS : Cs t n a e q S) (he : e ≤ a) : CRes (f_X7_readSum ib (nI d) S) t n tb 1 3 5 5 d S a e q (fun a => NoA t n a) := by
  have F1 : 1000 < FU := FU_ge (by decide)
  have hn := hS.1.1.1
  unfold f_X7_readSum
  rcases c_Term hib hS he with ⟨S1, a1, e1, q1, δ, r1, ⟨b1, b2, b3, b4, b5, b6, b7, b8⟩, r3, r4⟩ | ⟨S1, af, e1, r1, r2, r3, r4, r5, r6⟩
  · rw [r1]
    simp only [Option.bind_some]
    exact l_Sum hib he (n - a1) FU 0 S1 a1 e1 q1 δ (Nat.le_refl _) (by omega) (by omega) ⟨b1, b2, b3, b4, b5, b6, b7, b8.mono (by decide) (by decide)⟩ r3
  · rw [r1]
    simp only [Option.bind_some]
    obtain ⟨k, hk⟩ : ∃ k, FU = k + 1 := ⟨FU - 1, by omega⟩
    refine Or.inr ⟨S1, af, e1, ?_, r2, r3, r4, r5, r6.mono (by decide)⟩
    rw [hk, f_X7_readSum_8]
    unfold f_X7_readSum_79
    simp (disch := omega) only [k_let, Option.bind_some, ↓reduceIte, eq_self, true_or, or_true, n01_0, n01_1, kb_or, kb_0T, kb_0F, vn_0, vn_1, vn_k, nl_0, nl_1, nl_2, nl_3, nl_4, nl_5, nl_6, nl_7, nl_8, nl_9, nl_10, nl_11, nl_12, nl_13, nl_14, nl_15, nl_16, nl_20, nl_21, nl_22, nl_23, nl_24, nl_25, nl_26, nl_27, nl_28, nl_29, nl_30, nl_31, nl_32, nl_40, nl_41, nl_42, nl_43, nl_45, nl_47, nl_48, nl_50, nl_57, nl_59, nl_60, nl_61, nl_62, nl_63, nl_64, nl_91, nl_93, nl_94, nl_97, nl_98, nl_100, nl_110, nl_122, nl_130, nl_144, nl_160, nl_240, nl_241, nl_255, nl_256, nl_400, nl_800, nl_900, nl_999, nl_1000, nl_1001, nl_1024, nl_1103, nl_1928, nl_4321, nl_5560, nl_12345, nl_1000000, nl_1000003, nl_252645135, nl_858993459, nl_1431655765, nl_1000000000, nI_add, pk_mul, n_sub, n_neg, n_cl, leT, leF, ltT, ltF, eqT, eqF, kbT, s_II, s_In, s_IJ, s_IA, s_IL, s_IR, s_IC, s_JI, s_JJ, s_Jn, s_JA, s_JL, s_JR, s_JC, s_AI, s_AJ, s_AA, s_An, s_AL, s_AR, s_AC, s_LI, s_LJ, s_LA, s_LL, s_Ln, s_LR, s_LC]
