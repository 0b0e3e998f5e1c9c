/-! part d4: the reference's reading of an expression, in steps -/
abbrev FM (U T : St) : Prop := Fr [37, 38, 39, 41, 43, 44, 45, 46] [0] [58, 59, 60, 61] [] U T
/-- where it goes bad the place is written, too -/
abbrev FMb (U T : St) : Prop := Fr [37, 38, 39, 40, 41, 43, 44, 45, 46] [0] [58, 59, 60, 61] [] U T
theorem FM.b {U V W : St} (f : FM U V) (g : FMb V W) : FMb U W := Fr.trans (f.mono rfl rfl rfl rfl) g
def Mxp (t : Nat → Nat) (n a b c q o : Nat) (K : Pi_) (U : St) : Prop :=
  Mtk t n a U ∧ gI U 41 = nI 0 ∧ gI U 43 = nI c ∧ gI U 44 = nI q ∧ gI U 45 = nI K.length ∧ gI U 46 = nI o ∧ PLs U K ∧ Pk c K ∧ c + K.length ≤ b ∧ b ≤ 400 ∧ ∀ i, i < 7 → gL U 62 i = lZ (wdL.getD i 0)
theorem fin_app : ∀ (P Q : Pi_) (F : Nat → Nat × Int) (c : Nat), fin_ F c (P ++ Q) = fin_ (fin_ F c P).1 (fin_ F c P).2 Q := by
  intro P Q
  induction P with
  | nil => intro F c; rfl
  | cons x P ih =>
    intro F c
    show (if x.1 = 28 then fin_ _ c (P ++ Q) else if x.1 = 29 then fin_ _ c (P ++ Q) else fin_ _ (c + 1) (P ++ Q)) = fin_ (if x.1 = 28 then _ else if x.1 = 29 then _ else _ : (Nat → Nat × Int) × Nat).1 (if x.1 = 28 then _ else if x.1 = 29 then _ else _ : (Nat → Nat × Int) × Nat).2 Q
    by_cases c1 : x.1 = 28
    · rw [if_pos c1, if_pos c1]; exact ih _ _
    · rw [if_neg c1, if_neg c1]
      by_cases c2 : x.1 = 29
      · rw [if_pos c2, if_pos c2]; exact ih _ _
      · rw [if_neg c2, if_neg c2]; exact ih _ _
theorem fin_lo : ∀ (P : Pi_) (F : Nat → Nat × Int) (c c0 : Nat), c0 ≤ c → (∀ x, x ∈ P → x.1 = 28 ∨ x.1 = 29 → c0 ≤ x.2) → ∀ p, p < c0 → (fin_ F c P).1 p = F p := by
  intro P
  induction P with
  | nil => intro F c c0 _ _ p _; rfl
  | cons x P ih =>
    intro F c c0 hc hP p hp
    show (if x.1 = 28 then fin_ _ c P else if x.1 = 29 then fin_ _ c P else fin_ _ (c + 1) P : (Nat → Nat × Int) × Nat).1 p = F p
    have hx := hP x List.mem_cons_self
    have hP' : ∀ y, y ∈ P → y.1 = 28 ∨ y.1 = 29 → c0 ≤ y.2 := fun y hy => hP y (List.mem_cons_of_mem _ hy)
    by_cases c1 : x.1 = 28
    · have := hx (Or.inl c1)
      rw [if_pos c1, ih _ _ c0 hc hP' p hp, if_neg (by omega)]
    · rw [if_neg c1]
      by_cases c2 : x.1 = 29
      · have := hx (Or.inr c2)
        rw [if_pos c2, ih _ _ c0 hc hP' p hp, if_neg (by omega)]
      · rw [if_neg c2, ih _ _ c0 (by omega) hP' p hp, if_neg (by omega)]
def tpL (L : Nat) (K : Pi_) : Prop := ∀ x K', K = x :: K' → bn x.1 < L
theorem tpL.mono {L L' : Nat} {K : Pi_} (h : tpL L K) (e : L ≤ L') : tpL L' K := fun x K' q => Nat.lt_of_lt_of_le (h x K' q) e
theorem tpL.cons {L : Nat} {x : Nat × Nat} {K : Pi_} (h : bn x.1 < L) : tpL L (x :: K) := fun y K' q => by cases q; exact h
def Cx (tb : Nat) (K : Pi_) : Prop := inn K = 30 ∨ (inn K = 0 ∧ tb = 1)
theorem inn_app : ∀ {P K : Pi_}, (∀ x, x ∈ P → 1 ≤ bn x.1) → inn (P ++ K) = inn K := by
  intro P K
  induction P with
  | nil => intro _; rfl
  | cons x P ih =>
    intro h
    have hx := h x List.mem_cons_self
    have : ¬ 30 ≤ x.1 := fun q => by
      have : bn x.1 = 0 := if_pos q
      omega
    show (if 30 ≤ x.1 then _ else inn (P ++ K)) = _
    rw [if_neg this]
    exact ih (fun y hy => h y (List.mem_cons_of_mem _ hy))
theorem Fx.fr {U T : St} {ci cj ca cl : List Nat} (f : Fr ci cj ca cl U T) (h1 : ca.contains 58 = false) (h2 : ca.contains 59 = false) : Fx T = Fx U := by
  funext p
  unfold Fx
  rw [f.A h1, f.A h2]
theorem Mxp.lt {t : Nat → Nat} {n a b c q o : Nat} {K : Pi_} {U : St} (h : Mxp t n a b c q o K U) : K.length ≤ 400 ∧ c ≤ 400 := by
  obtain ⟨-, -, -, -, -, -, -, -, h9, h10, -⟩ := h
  omega
theorem Mxp.settle {t : Nat → Nat} {n a b c q o L : Nat} {P K : Pi_} {U : St} (h : Mxp t n a b c q o (P ++ K) U) (hL : L < 100) (hP : ∀ x, x ∈ P → L ≤ bn x.1) (hK : tpL L K) : ∃ T, f_X12_settle (nI L) U = some T ∧ Mxp t n a b (fin_ (Fx U) c P).2 q o K T ∧ FM U T ∧ Fx T = (fin_ (Fx U) c P).1 ∧ c ≤ (fin_ (Fx U) c P).2 ∧ gA T 60 = gA U 60 ∧ (fin_ (Fx U) c P).2 ≤ c + P.length := by
  have F1 : 1000 < FU := FU_ge (by decide)
  obtain ⟨h1, h2, h3, h4, h5, h6, h7, h8, h9, h10, h11⟩ := h
  have hl : (P ++ K).length = P.length + K.length := List.length_append
  obtain ⟨T, e1, e2, e3, e4, e5, e6, e7, e8, e9⟩ := l_settle P K FU U c L hL hP hK h3 h5 h7 h8 (by omega) (by omega)
  refine ⟨T, e1, ⟨h1.fr e2 rfl rfl rfl rfl rfl rfl, (e2.I rfl).trans h2, e3, (e2.I rfl).trans h4, e5, (e2.I rfl).trans h6, e6, h8.app.mono e7, by omega, h10, fun i hi => ?_⟩, e2.mono rfl rfl rfl rfl, e4, e7, e2.A rfl, e8⟩
  rw [e2.L rfl]
  exact h11 i hi
theorem Mxp.next {t : Nat → Nat} {n a b c q o : Nat} {K : Pi_} {U : St} (h : Mxp t n a b c q o K U) (hb : b ≤ tnx t n a) : ∃ T, f_X12_next U = some T ∧ Mxp t n (tnx t n a) (tnx t n a) c q o K T ∧ FM U T ∧ Fx T = Fx U := by
  obtain ⟨h1, h2, h3, h4, h5, h6, h7, h8, h9, h10, h11⟩ := h
  obtain ⟨T, e1, e2, e3⟩ := h1.next
  refine ⟨T, e1, ⟨e3, (e2.I rfl).trans h2, (e2.I rfl).trans h3, (e2.I rfl).trans h4, (e2.I rfl).trans h5, (e2.I rfl).trans h6, h7.congr (c := c) h8 (fun i _ => by rw [e2.A rfl, e2.A rfl]; exact ⟨rfl, rfl⟩) (fun i _ => by rw [e2.A rfl]), h8, by omega, by have := e3.2.1; have := e3.1.1; omega, fun i hi => by rw [e2.L rfl]; exact h11 i hi⟩, e2.mono rfl rfl rfl rfl, Fx.fr e2 rfl rfl⟩
theorem Mxp.must {t : Nat → Nat} {n a b c q o : Nat} {K : Pi_} {U : St} (h : Mxp t n a b c q o K U) (hb : b ≤ tnx t n a) : ∃ T, f_X12_must (nI 1) U = some T ∧ Mxp t n (tnx t n a) (tnx t n a) c q o K T ∧ FM U T ∧ Fx T = Fx U := by
  obtain ⟨T, e1, e2⟩ := h.next hb
  refine ⟨T, ?_, e2⟩
  unfold f_X12_must f_X12_must_24 f_X12_must_35
  simp (disch := omega) only [k_let, Option.bind_some, ↓reduceIte, eq_self, true_or, or_true, n01_0, n01_1, kb_or, kb_0T, kb_0F, vn_0, vn_1, vn_k, nl_0, nl_1, nl_2, nl_3, nl_4, nl_5, nl_6, nl_7, nl_8, nl_9, nl_10, nl_11, nl_12, nl_13, nl_14, nl_15, nl_16, nl_20, nl_21, nl_22, nl_23, nl_24, nl_25, nl_26, nl_27, nl_28, nl_29, nl_30, nl_31, nl_32, nl_40, nl_41, nl_42, nl_43, nl_45, nl_47, nl_48, nl_50, nl_57, nl_59, nl_60, nl_61, nl_62, nl_63, nl_64, nl_91, nl_93, nl_94, nl_97, nl_98, nl_100, nl_110, nl_122, nl_130, nl_144, nl_160, nl_240, nl_241, nl_255, nl_256, nl_400, nl_800, nl_900, nl_999, nl_1000, nl_1001, nl_1024, nl_1103, nl_1928, nl_4321, nl_5560, nl_12345, nl_1000000, nl_1000003, nl_252645135, nl_858993459, nl_1431655765, nl_1000000000, nI_add, pk_mul, n_sub, n_neg, n_cl, leT, leF, ltT, ltF, eqT, eqF, kbT, s_II, s_In, s_IJ, s_IA, s_IL, s_IR, s_IC, s_JI, s_JJ, s_Jn, s_JA, s_JL, s_JR, s_JC, s_AI, s_AJ, s_AA, s_An, s_AL, s_AR, s_AC, s_LI, s_LJ, s_LA, s_LL, s_Ln, s_LR, s_LC, h.2.1, e1]
theorem Mxp.push {t : Nat → Nat} {n a b c q o : Nat} {K : Pi_} {U : St} (h : Mxp t n a b c q o K U) {op at_ : Nat} (hb : b < 400) (ho : 20 ≤ op ∧ op < 32 ∧ at_ < 400) (hao : ¬ (op = 28 ∨ op = 29)) : ∃ T, f_X12_push (nI op) (nI at_) U = some T ∧ Mxp t n a (b + 1) c q o ((op, at_) :: K) T ∧ FM U T ∧ Fx T = Fx U := by
  obtain ⟨h1, h2, h3, h4, h5, h6, h7, h8, h9, h10, h11⟩ := h
  obtain ⟨T, e1, e2, e3, e4, e5, e6⟩ := e_mpush h5 (by omega) (nI op) (nI at_)
  refine ⟨T, e1, ⟨h1.fr e2 rfl rfl rfl rfl rfl rfl, (e2.I rfl).trans h2, (e2.I rfl).trans h3, (e2.I rfl).trans h4, e3, (e2.I rfl).trans h6, ⟨e5, e6, fun z => absurd z hao, h7.congr (c := c) h8 (fun i hi => e4 i (by omega)) (fun i _ => by rw [e2.A rfl])⟩, h8.cons ⟨ho.1, ho.2.1, ho.2.2, fun z => absurd z hao⟩, by show c + (K.length + 1) ≤ b + 1; omega, by omega, fun i hi => by rw [e2.L rfl]; exact h11 i hi⟩, e2.mono rfl rfl rfl rfl, Fx.fr e2 rfl rfl⟩
theorem Mxp.emit {t : Nat → Nat} {n a b c q o : Nat} {K : Pi_} {U : St} (h : Mxp t n a b c q o K U) (hb : c + K.length < b) (x y : Int32) : ∃ T, f_X12_emit x y U = some T ∧ Mxp t n a b (c + 1) q o K T ∧ FM U T ∧ ∀ p, Fx T p = if p = c then dR x y else Fx U p := by
  obtain ⟨h1, h2, h3, h4, h5, h6, h7, h8, h9, h10, h11⟩ := h
  obtain ⟨T, e1, e2, e3, e4, e5, e6⟩ := e_emit h3 (by omega) x y
  refine ⟨T, e1, ⟨h1.fr e2 rfl rfl rfl rfl rfl rfl, (e2.I rfl).trans h2, e3, (e2.I rfl).trans h4, (e2.I rfl).trans h5, (e2.I rfl).trans h6, h7.congr (c := c) h8 (fun i _ => by rw [e2.A rfl, e2.A rfl]; exact ⟨rfl, rfl⟩) (fun i hi => e5 i (by omega)), h8.mono (by omega), by omega, h10, fun i hi => by rw [e2.L rfl]; exact h11 i hi⟩, e2.mono rfl rfl rfl rfl, e4⟩
def Lp (tb k T T' : Nat) (U U' : St) : Prop := ∀ m, f_X12_readExpression_20 (m + k) (nI tb) (nI T) U = f_X12_readExpression_20 m (nI tb) (nI T') U'
theorem Lp.trans {tb k k' T T' T'' : Nat} {U U' U'' : St} (h : Lp tb k T T' U U') (g : Lp tb k' T' T'' U' U'') : Lp tb (k + k') T T'' U U'' := fun m => by
  rw [show m + (k + k') = (m + k') + k by omega, h, g]
theorem lq3 {tb T' : Nat} {U U' : St} (h : gI U 41 = nI 0) (e : f_X12_behindSum (nI tb) U = some (nI T', U')) : Lp tb 1 3 T' U U' := fun m => by
  rw [f_X12_readExpression_20]
  unfold f_X12_readExpression_72
  simp (disch := omega) only [k_let, Option.bind_some, ↓reduceIte, eq_self, true_or, or_true, n01_0, n01_1, kb_or, kb_0T, kb_0F, vn_0, vn_1, vn_k, nl_0, nl_1, nl_2, nl_3, nl_4, nl_5, nl_6, nl_7, nl_8, nl_9, nl_10, nl_11, nl_12, nl_13, nl_14, nl_15, nl_16, nl_20, nl_21, nl_22, nl_23, nl_24, nl_25, nl_26, nl_27, nl_28, nl_29, nl_30, nl_31, nl_32, nl_40, nl_41, nl_42, nl_43, nl_45, nl_47, nl_48, nl_50, nl_57, nl_59, nl_60, nl_61, nl_62, nl_63, nl_64, nl_91, nl_93, nl_94, nl_97, nl_98, nl_100, nl_110, nl_122, nl_130, nl_144, nl_160, nl_240, nl_241, nl_255, nl_256, nl_400, nl_800, nl_900, nl_999, nl_1000, nl_1001, nl_1024, nl_1103, nl_1928, nl_4321, nl_5560, nl_12345, nl_1000000, nl_1000003, nl_252645135, nl_858993459, nl_1431655765, nl_1000000000, nI_add, pk_mul, n_sub, n_neg, n_cl, leT, leF, ltT, ltF, eqT, eqF, kbT, s_II, s_In, s_IJ, s_IA, s_IL, s_IR, s_IC, s_JI, s_JJ, s_Jn, s_JA, s_JL, s_JR, s_JC, s_AI, s_AJ, s_AA, s_An, s_AL, s_AR, s_AC, s_LI, s_LJ, s_LA, s_LL, s_Ln, s_LR, s_LC, h, e]
theorem lq1 {tb T' : Nat} {U U' : St} (h : gI U 41 = nI 0) (e : f_X12_readPart U = some (nI T', U')) : Lp tb 1 1 T' U U' := fun m => by
  rw [f_X12_readExpression_20]
  unfold f_X12_readExpression_72
  simp (disch := omega) only [k_let, Option.bind_some, ↓reduceIte, eq_self, true_or, or_true, n01_0, n01_1, kb_or, kb_0T, kb_0F, vn_0, vn_1, vn_k, nl_0, nl_1, nl_2, nl_3, nl_4, nl_5, nl_6, nl_7, nl_8, nl_9, nl_10, nl_11, nl_12, nl_13, nl_14, nl_15, nl_16, nl_20, nl_21, nl_22, nl_23, nl_24, nl_25, nl_26, nl_27, nl_28, nl_29, nl_30, nl_31, nl_32, nl_40, nl_41, nl_42, nl_43, nl_45, nl_47, nl_48, nl_50, nl_57, nl_59, nl_60, nl_61, nl_62, nl_63, nl_64, nl_91, nl_93, nl_94, nl_97, nl_98, nl_100, nl_110, nl_122, nl_130, nl_144, nl_160, nl_240, nl_241, nl_255, nl_256, nl_400, nl_800, nl_900, nl_999, nl_1000, nl_1001, nl_1024, nl_1103, nl_1928, nl_4321, nl_5560, nl_12345, nl_1000000, nl_1000003, nl_252645135, nl_858993459, nl_1431655765, nl_1000000000, nI_add, pk_mul, n_sub, n_neg, n_cl, leT, leF, ltT, ltF, eqT, eqF, kbT, s_II, s_In, s_IJ, s_IA, s_IL, s_IR, s_IC, s_JI, s_JJ, s_Jn, s_JA, s_JL, s_JR, s_JC, s_AI, s_AJ, s_AA, s_An, s_AL, s_AR, s_AC, s_LI, s_LJ, s_LA, s_LL, s_Ln, s_LR, s_LC, h, e]
theorem lq0 {tb T' : Nat} {U U' : St} (h : gI U 41 = nI 0) (e : f_X12_readPlain U = some (nI T', U')) : Lp tb 1 0 T' U U' := fun m => by
  rw [f_X12_readExpression_20]
  unfold f_X12_readExpression_72
  simp (disch := omega) only [k_let, Option.bind_some, ↓reduceIte, eq_self, true_or, or_true, n01_0, n01_1, kb_or, kb_0T, kb_0F, vn_0, vn_1, vn_k, nl_0, nl_1, nl_2, nl_3, nl_4, nl_5, nl_6, nl_7, nl_8, nl_9, nl_10, nl_11, nl_12, nl_13, nl_14, nl_15, nl_16, nl_20, nl_21, nl_22, nl_23, nl_24, nl_25, nl_26, nl_27, nl_28, nl_29, nl_30, nl_31, nl_32, nl_40, nl_41, nl_42, nl_43, nl_45, nl_47, nl_48, nl_50, nl_57, nl_59, nl_60, nl_61, nl_62, nl_63, nl_64, nl_91, nl_93, nl_94, nl_97, nl_98, nl_100, nl_110, nl_122, nl_130, nl_144, nl_160, nl_240, nl_241, nl_255, nl_256, nl_400, nl_800, nl_900, nl_999, nl_1000, nl_1001, nl_1024, nl_1103, nl_1928, nl_4321, nl_5560, nl_12345, nl_1000000, nl_1000003, nl_252645135, nl_858993459, nl_1431655765, nl_1000000000, nI_add, pk_mul, n_sub, n_neg, n_cl, leT, leF, ltT, ltF, eqT, eqF, kbT, s_II, s_In, s_IJ, s_IA, s_IL, s_IR, s_IC, s_JI, s_JJ, s_Jn, s_JA, s_JL, s_JR, s_JC, s_AI, s_AJ, s_AA, s_An, s_AL, s_AR, s_AC, s_LI, s_LJ, s_LA, s_LL, s_Ln, s_LR, s_LC, h, e]
theorem lq2 {tb T' : Nat} {U U' : St} (h : gI U 41 = nI 0) (e : f_X12_behindTest U = some (nI T', U')) : Lp tb 1 2 T' U U' := fun m => by
  rw [f_X12_readExpression_20]
  unfold f_X12_readExpression_72
  simp (disch := omega) only [k_let, Option.bind_some, ↓reduceIte, eq_self, true_or, or_true, n01_0, n01_1, kb_or, kb_0T, kb_0F, vn_0, vn_1, vn_k, nl_0, nl_1, nl_2, nl_3, nl_4, nl_5, nl_6, nl_7, nl_8, nl_9, nl_10, nl_11, nl_12, nl_13, nl_14, nl_15, nl_16, nl_20, nl_21, nl_22, nl_23, nl_24, nl_25, nl_26, nl_27, nl_28, nl_29, nl_30, nl_31, nl_32, nl_40, nl_41, nl_42, nl_43, nl_45, nl_47, nl_48, nl_50, nl_57, nl_59, nl_60, nl_61, nl_62, nl_63, nl_64, nl_91, nl_93, nl_94, nl_97, nl_98, nl_100, nl_110, nl_122, nl_130, nl_144, nl_160, nl_240, nl_241, nl_255, nl_256, nl_400, nl_800, nl_900, nl_999, nl_1000, nl_1001, nl_1024, nl_1103, nl_1928, nl_4321, nl_5560, nl_12345, nl_1000000, nl_1000003, nl_252645135, nl_858993459, nl_1431655765, nl_1000000000, nI_add, pk_mul, n_sub, n_neg, n_cl, leT, leF, ltT, ltF, eqT, eqF, kbT, s_II, s_In, s_IJ, s_IA, s_IL, s_IR, s_IC, s_JI, s_JJ, s_Jn, s_JA, s_JL, s_JR, s_JC, s_AI, s_AJ, s_AA, s_An, s_AL, s_AR, s_AC, s_LI, s_LJ, s_LA, s_LL, s_Ln, s_LR, s_LC, h, e]
/-- it goes bad at af -/
def MBd (n tb T a : Nat) (U : St) (af : Nat) : Prop := ∃ k T' U' c' K', (1 ≤ k ∧ k + 2 * a ≤ 2 * n + 2) ∧ Lp tb k T T' U U' ∧ gI U' 41 = nI 1 ∧ gI U' 40 = nI af ∧ gI U' 43 = nI c' ∧ gI U' 45 = nI K'.length ∧ PLs U' K' ∧ Pk c' K' ∧ c' + K'.length ≤ 400 ∧ FMb U U'
theorem MBd.pre {n tb T T' a a' k : Nat} {U U' : St} {af : Nat} (h : MBd n tb T' a' U' af) (g : Lp tb k T T' U U') (hk : k + 2 * a ≤ 2 * a') (f : FM U U') : MBd n tb T a U af := by
  obtain ⟨k2, T2, U2, c2, K2, h1, h2, h3⟩ := h
  exact ⟨k + k2, T2, U2, c2, K2, by omega, g.trans h2, h3.1, h3.2.1, h3.2.2.1, h3.2.2.2.1, h3.2.2.2.2.1, h3.2.2.2.2.2.1, h3.2.2.2.2.2.2.1, FM.b f h3.2.2.2.2.2.2.2⟩
theorem Mxp.bad {t : Nat → Nat} {n a b c q o : Nat} {K : Pi_} {U : St} (h : Mxp t n a b c q o K U) : ∃ T, f_X12_must (nI 0) U = some T ∧ gI T 41 = nI 1 ∧ gI T 40 = nI a ∧ gI T 43 = nI c ∧ gI T 45 = nI K.length ∧ PLs T K ∧ Pk c K ∧ c + K.length ≤ 400 ∧ FMb U T := by
  obtain ⟨h1, h2, h3, h4, h5, h6, h7, h8, h9, h10, h11⟩ := h
  obtain ⟨T, e1, e2, e3, e4⟩ := e_mustF h1 h2
  exact ⟨T, e1, e3, e4, (e2.I rfl).trans h3, (e2.I rfl).trans h5, h7.congr (c := c) h8 (fun i _ => by rw [e2.A rfl, e2.A rfl]; exact ⟨rfl, rfl⟩) (fun i _ => by rw [e2.A rfl]), h8, by omega, e2.mono rfl rfl rfl rfl⟩
/-- what is read from a to a' means δ; signs of at least Lp wait -/
def MOk (t : Nat → Nat) (n tb Tin Tout Lc Lq d a q a' q' : Nat) (δ : Den) : Prop :=
  ∀ c K U, Mxp t n a a c q d K U → tpL Lc K → (Tout = 2 → Cx tb K) → ∃ k c' P U', Lp tb k Tin Tout U U' ∧ Mxp t n a' a' c' q' d (P ++ K) U' ∧ (∀ x, x ∈ P → Lq ≤ bn x.1 ∧ (x.1 = 28 ∨ x.1 = 29 → c ≤ x.2)) ∧ FM U U' ∧ (∀ p, p < c → Fx U' p = Fx U p) ∧ c ≤ c' ∧
    Cm (fin_ (Fx U') c' P).1 c (fin_ (Fx U') c' P).2 δ (q' - q) ∧ 1 ≤ k ∧ k + 2 * a ≤ 2 * a'
def MFl (t : Nat → Nat) (n tb Tin Tout Lc d a q af : Nat) : Prop := ∀ c K U, Mxp t n a a c q d K U → tpL Lc K → (Tout = 2 → Cx tb K) → MBd n tb Tin a U af
theorem MOk.mono {t : Nat → Nat} {n tb Tin Tout Lc Lq Lc' Lq' d a q a' q' : Nat} {δ : Den} (h : MOk t n tb Tin Tout Lc Lq d a q a' q' δ) (h1 : Lc' ≤ Lc) (h2 : Lq' ≤ Lq) : MOk t n tb Tin Tout Lc' Lq' d a q a' q' δ := fun c K U hM hK hC => by
  obtain ⟨k, c', P, U', e1, e2, e3, e4⟩ := h c K U hM (hK.mono h1) hC
  exact ⟨k, c', P, U', e1, e2, fun x hx => ⟨Nat.le_trans h2 (e3 x hx).1, (e3 x hx).2⟩, e4⟩
theorem MFl.mono {t : Nat → Nat} {n tb Tin Tout Lc Lc' d a q af : Nat} (h : MFl t n tb Tin Tout Lc d a q af) (h1 : Lc' ≤ Lc) : MFl t n tb Tin Tout Lc' d a q af := fun c K U hM hK hC => h c K U hM (hK.mono h1) hC
