/-! part db: the class's comparisons, tests and brackets, side by side with the reference -/
theorem c_cmp {t : Nat → Nat} {n tb a e q d : Nat} {ib : Int32 → Int32 → St → Option (Int32 × St)} {S : St} (hib : IB t n tb ib d) (hS : Cs t n a e q S) (he : e ≤ a) : CRes (f_X7_readComparison ib (nI d) S) t n tb 1 2 4 4 d S a e q (fun _ => True) := by
  have hn := hS.1.1.1
  unfold f_X7_readComparison
  rcases c_Sum hib hS he with ⟨S1, a1, e1, q1, δ, r1, ⟨b1, b2, b3, b4, b5, b6, b7, b8⟩, r3, r4⟩ | ⟨S1, af, e1, r1, r2, r3, r4, r5, r6⟩
  · rw [r1]
    simp only [Option.bind_some]
    rw [if_neg (show ¬ nI 1 = (0 : Int32) by decide)]
    have go : ∀ ch co op, (ch, co, op) ∈ [(60, 10, 24), (62, 11, 25), (61, 12, 26)] → isS t n a1 ch = true → CRes (f_X7_readComparison_53 ib (nI d) (nI co) S1) t n tb 1 2 4 4 d S a e q (fun _ => True) := by
      intro ch co op hop hs
      have hx1 := tnx_lt (t := t) (n := n) (a := a1) (by rw [(isS_kd hs).1]; decide)
      have hop2 : (ch, op) ∈ [(60, 24), (62, 25), (61, 26)] ∧ co = op - 14 ∧ 24 ≤ op ∧ op ≤ 26 := by
        simp only [List.mem_cons, Prod.mk.injEq, List.not_mem_nil, or_false] at hop
        rcases hop with ⟨rfl, rfl, rfl⟩ | ⟨rfl, rfl, rfl⟩ | ⟨rfl, rfl, rfl⟩ <;> decide
      obtain ⟨o1, o2, o3, o4⟩ := hop2
      obtain ⟨S2, d1, d2, d3⟩ := b1.step
      unfold f_X7_readComparison_53
      rw [if_neg (show ¬ nI co = (-1 : Int32) by rw [show (-1 : Int32) = iZ (-1) from rfl, nzeqF (by omega) (by omega) (by decide) (by decide)]; exact id), d1]
      simp only [Option.bind_some]
      rcases c_Sum hib d3 (by omega) with ⟨S3, a3, e3, q3, δ3, g1, ⟨c1, c2, c3, c4, c5, c6, c7, c8⟩, g3, g4⟩ | ⟨S3, af, e3, g1, g2, g3, g4, g5, g6⟩
      · have ha3 := c1.1.2.1
        rw [g1]
        simp only [Option.bind_some]
        obtain ⟨S4, p1, p2, p3, p4, p5⟩ := e_put c1.2.1 c1.2.2.2.1 (nI co) (nI 0)
        rw [show min (e3 + 1) 400 = e3 + 1 by omega] at p3
        obtain ⟨w1, w2⟩ := p5 (by omega)
        have hcc := c7.1.1
        have hcc1 := b7.1.1
        rw [show (0 : Int32) = nI 0 from rfl, p1]
        simp only [Option.bind_some]
        rw [if_pos (by first | exact Or.inr rfl | exact Or.inl rfl | exact Or.inl trivial | exact Or.inr trivial)]
        refine Or.inl ⟨S4, a3, e3 + 1, q3, _, rfl, ⟨⟨c1.1.fr p2 rfl rfl rfl rfl rfl rfl, p3, (p2.I rfl).trans c1.2.2.1, by omega, c1.2.2.2.2⟩, (b2.trans (d2.mono rfl rfl rfl rfl)).trans (c2.trans (p2.mono rfl rfl rfl rfl)), fun i hi => ?_, by omega, by omega, by omega, ?_, MOk.cmp o1 b8 hs c8 g3 b5 c5 (by omega)⟩, trivial, fun _ => T01.cmp (by omega)⟩
        · rw [p4 i (by omega), c3 i (by omega), d2.A rfl, b3 i hi]
        · refine (Cm.bin (op := op - 18) (x := 0) ((b7.row (b := gA S4 24) (fun k hk => ?_))) (c7.row (b := gA S4 24) (fun k hk => p4 k hk)) ?_ (by omega) (by omega)).mono (by omega)
          · rw [p4 k (by omega), c3 k hk, d2.A rfl]
          · rw [Fc_at w1 w2, o2, dC_op _ (by omega) (by omega), show op - 14 - 4 = op - 18 by omega]
      · rw [g1]
        simp only [Option.bind_some]
        obtain ⟨S4, p1, p2, p3, -, -⟩ := e_put g4 g5 (nI co) (nI 0)
        rw [show (0 : Int32) = nI 0 from rfl, p1]
        simp only [Option.bind_some]
        rw [if_pos (by first | exact Or.inr rfl | exact Or.inl rfl | exact Or.inl trivial | exact Or.inr trivial)]
        exact Or.inr ⟨S4, af, _, rfl, (b2.trans (d2.mono rfl rfl rfl rfl)).trans (g2.trans (p2.mono rfl rfl rfl rfl)), (p2.I rfl).trans g3, p3, Nat.min_le_right _ _, MFl.cmp3 o1 b8 hs g6⟩
    rw [show (60 : Int32) = nI 60 from rfl, e_seesSign b1.1 (by decide)]
    simp only [Option.bind_some]
    by_cases s1 : isS t n a1 60 = true
    · rw [s1, if_neg (show ¬ kB true = (0 : Int32) by decide)]
      exact go 60 10 24 (by decide) s1
    · rw [Bool.eq_false_iff.mpr s1, if_pos (show kB false = (0 : Int32) from rfl), show (62 : Int32) = nI 62 from rfl, e_seesSign b1.1 (by decide)]
      simp only [Option.bind_some]
      by_cases s2 : isS t n a1 62 = true
      · rw [s2, if_neg (show ¬ kB true = (0 : Int32) by decide)]
        exact go 62 11 25 (by decide) s2
      · rw [Bool.eq_false_iff.mpr s2, if_pos (show kB false = (0 : Int32) from rfl), show (61 : Int32) = nI 61 from rfl, e_seesSign b1.1 (by decide)]
        simp only [Option.bind_some]
        by_cases s3 : isS t n a1 61 = true
        · rw [s3, if_neg (show ¬ kB true = (0 : Int32) by decide)]
          exact go 61 12 26 (by decide) s3
        · rw [Bool.eq_false_iff.mpr s3, if_pos (show kB false = (0 : Int32) from rfl)]
          refine Or.inr ⟨S1, a1, e1, ?_, b2, b1.1.2.2.1, b1.2.1, b1.2.2.2.1, MFl.cmp2 b8 r3 ⟨Bool.eq_false_iff.mpr s1, Bool.eq_false_iff.mpr s2, Bool.eq_false_iff.mpr s3⟩⟩
          unfold f_X7_readComparison_53
          rw [if_pos rfl]
          rfl
  · rw [r1]
    simp only [Option.bind_some]
    rw [if_pos (show nI 0 = (0 : Int32) from rfl)]
    exact Or.inr ⟨S1, af, e1, rfl, r2, r3, r4, r5, r6.cmp1⟩
def nB (b : Bool) : Nat := if b = true then 1 else 0
def dB (b : Bool) (δ : Den) : Den := if b = true then dNot δ else δ
/-- a plain test behind nots, b of them (by twos) still to be written -/
theorem l_plain {t : Nat → Nat} {n tb d : Nat} {ib : Int32 → Int32 → St → Option (Int32 × St)} (hib : IB t n tb ib d) : ∀ (m f x3 : Nat) (b : Bool) (S : St) (a e q : Nat), n - a ≤ m → m + 1 < f → x3 ≤ a → Cs t n a e q S → e + nB b ≤ a →
    (∃ S1 a1 e1 q1 δ, f_X7_readPlain_4 ib f (nI d) (kB b) (nI x3) S = some (nI 1, S1) ∧ Cs t n a1 e1 q1 S1 ∧ FC S S1 ∧ (∀ i, i < 2 * e → gA S1 24 i = gA S 24 i) ∧ e1 + a ≤ e + a1 + nB b ∧ q < q1 ∧ a < a1 ∧ Cm (Fc (gA S1 24)) e e1 (dB b δ) (q1 - q) ∧ MOk t n tb 0 2 4 3 d a q a1 q1 δ ∧ T01 δ) ∨
    (∃ S1 af e1, f_X7_readPlain_4 ib f (nI d) (kB b) (nI x3) S = some (nI 0, S1) ∧ FC S S1 ∧ gI S1 15 = nI af ∧ gI S1 10 = nI (2 * e1) ∧ e1 ≤ 400 ∧ MFl t n tb 0 2 4 d a q af) := by
  -- what follows when no 'not' stands here
  have base : ∀ (b : Bool) (S : St) (a e q : Nat), Cs t n a e q S → e + nB b ≤ a → isW t n a 3 = false →
      (∃ S1 a1 e1 q1 δ, f_X7_readPlain_40 ib (nI d) (kB b) S = some (nI 1, S1) ∧ Cs t n a1 e1 q1 S1 ∧ FC S S1 ∧ (∀ i, i < 2 * e → gA S1 24 i = gA S 24 i) ∧ e1 + a ≤ e + a1 + nB b ∧ q < q1 ∧ a < a1 ∧ Cm (Fc (gA S1 24)) e e1 (dB b δ) (q1 - q) ∧ MOk t n tb 0 2 4 3 d a q a1 q1 δ ∧ T01 δ) ∨
      (∃ S1 af e1, f_X7_readPlain_40 ib (nI d) (kB b) S = some (nI 0, S1) ∧ FC S S1 ∧ gI S1 15 = nI af ∧ gI S1 10 = nI (2 * e1) ∧ e1 ≤ 400 ∧ MFl t n tb 0 2 4 d a q af) := by
    intro b S a e q hS he hw
    have hn := hS.1.1.1
    have hr : ∃ g, f_X7_readPlain_40 ib (nI d) (kB b) S = g.bind (fun q53 => f_X7_readPlain_64 ib (kB b) q53.1 q53.2) ∧ CRes g t n tb 0 2 4 3 d S a e q (fun _ => True) := by
      unfold f_X7_readPlain_40
      rw [show (40 : Int32) = nI 40 from rfl, e_seesSign hS.1 (by decide)]
      simp only [Option.bind_some]
      by_cases s : isS t n a 40 = true
      · rw [s, if_neg (show ¬ kB true = (0 : Int32) by decide)]
        exact ⟨_, rfl, (hib S a e q hS (by omega)).2 s⟩
      · rw [Bool.eq_false_iff.mpr s, if_pos (show kB false = (0 : Int32) from rfl)]
        refine ⟨_, rfl, ?_⟩
        rcases c_cmp hib hS (by omega) with ⟨S1, a1, e1, q1, δ, r1, ⟨b1, b2, b3, b4, b5, b6, b7, b8⟩, r3, r4⟩ | ⟨S1, af, e1, r1, r2, r3, r4, r5, r6⟩
        · exact Or.inl ⟨S1, a1, e1, q1, δ, r1, ⟨b1, b2, b3, b4, b5, b6, b7, (b8.mono (Nat.le_refl _) (by decide)).t0 hw (Bool.eq_false_iff.mpr s)⟩, r3, r4⟩
        · exact Or.inr ⟨S1, af, e1, r1, r2, r3, r4, r5, r6.t0 hw (Bool.eq_false_iff.mpr s)⟩
    obtain ⟨g, hg, hr⟩ := hr
    rw [hg]
    rcases hr with ⟨S1, a1, e1, q1, δ, r1, ⟨b1, b2, b3, b4, b5, b6, b7, b8⟩, r3, r4⟩ | ⟨S1, af, e1, r1, r2, r3, r4, r5, r6⟩
    · have ha1 := b1.1.2.1
      rw [r1]
      simp only [Option.bind_some]
      unfold f_X7_readPlain_64 f_X7_readPlain_77
      cases b with
      | false =>
        rw [if_pos (show kB false = (0 : Int32) from rfl), if_pos (by first | exact Or.inr rfl | exact Or.inl rfl | exact Or.inl trivial | exact Or.inr trivial)]
        exact Or.inl ⟨S1, a1, e1, q1, δ, rfl, b1, b2, b3, by omega, b5, b6, b7, b8, r4 rfl⟩
      | true =>
        have hb : nB true = 1 := rfl
        rw [hb] at he
        rw [if_neg (show ¬ kB true = (0 : Int32) by decide)]
        obtain ⟨S2, g1, g2, g3, g4, g5⟩ := e_put b1.2.1 b1.2.2.2.1 (nI 13) (nI 0)
        rw [show min (e1 + 1) 400 = e1 + 1 by omega] at g3
        obtain ⟨w1, w2⟩ := g5 (by omega)
        rw [show (13 : Int32) = nI 13 from rfl, show (0 : Int32) = nI 0 from rfl, g1]
        simp only [Option.bind_some]
        rw [if_pos (by first | exact Or.inr rfl | exact Or.inl rfl | exact Or.inl trivial | exact Or.inr trivial)]
        refine Or.inl ⟨S2, a1, e1 + 1, q1, δ, rfl, ⟨b1.1.fr g2 rfl rfl rfl rfl rfl rfl, g3, (g2.I rfl).trans b1.2.2.1, by omega, b1.2.2.2.2⟩, b2.trans (g2.mono rfl rfl rfl rfl), fun i hi => ?_, by omega, b5, b6, ?_, b8, r4 rfl⟩
        · have := b7.1.1
          rw [g4 i (by omega), b3 i hi]
        · refine Cm.not (x := 0) (b7.row (b := gA S2 24) (fun k hk => g4 k hk)) (r4 rfl) ?_
          rw [Fc_at w1 w2]
          rfl
    · rw [r1]
      simp only [Option.bind_some]
      unfold f_X7_readPlain_64 f_X7_readPlain_77
      cases b with
      | false =>
        rw [if_pos (show kB false = (0 : Int32) from rfl), if_pos (by first | exact Or.inr rfl | exact Or.inl rfl | exact Or.inl trivial | exact Or.inr trivial)]
        exact Or.inr ⟨S1, af, e1, rfl, r2, r3, r4, r5, r6⟩
      | true =>
        rw [if_neg (show ¬ kB true = (0 : Int32) by decide)]
        obtain ⟨S2, g1, g2, g3, -, -⟩ := e_put r4 r5 (nI 13) (nI 0)
        rw [show (13 : Int32) = nI 13 from rfl, show (0 : Int32) = nI 0 from rfl, g1]
        simp only [Option.bind_some]
        rw [if_pos (by first | exact Or.inr rfl | exact Or.inl rfl | exact Or.inl trivial | exact Or.inr trivial)]
        exact Or.inr ⟨S2, af, _, rfl, r2.trans (g2.mono rfl rfl rfl rfl), (g2.I rfl).trans r3, g3, Nat.min_le_right _ _, r6⟩
  intro m
  induction m with
  | zero =>
    intro f x3 b S a e q hm hf hx hS he
    obtain ⟨f, rfl⟩ : ∃ k, f = k + 1 := ⟨f - 1, by omega⟩
    have hn := hS.1.1.1
    have han := hS.1.2.1
    have k0 : kd t n a = 0 := by unfold kd; rw [if_pos (by omega)]
    have hw : isW t n a 3 = false := by
      cases z : isW t n a 3 with
      | false => rfl
      | true => have := isW_kd z; omega
    have e0 : f_X7_readPlain_4 ib (f + 1) (nI d) (kB b) (nI x3) S = f_X7_readPlain_40 ib (nI d) (kB b) S := by
      rw [f_X7_readPlain_4]
      by_cases c : 400 ≤ x3
      · simp (disch := omega) only [k_let, Option.bind_some, ↓reduceIte, eq_self, true_or, or_true, n01_0, n01_1, kb_or, kb_0T, kb_0F, vn_0, vn_1, vn_k, nl_0, nl_1, nl_2, nl_3, nl_4, nl_5, nl_6, nl_7, nl_8, nl_9, nl_10, nl_11, nl_12, nl_13, nl_14, nl_15, nl_16, nl_20, nl_21, nl_22, nl_23, nl_24, nl_25, nl_26, nl_27, nl_28, nl_29, nl_30, nl_31, nl_32, nl_40, nl_41, nl_42, nl_43, nl_45, nl_47, nl_48, nl_50, nl_57, nl_59, nl_60, nl_61, nl_62, nl_63, nl_64, nl_91, nl_93, nl_94, nl_97, nl_98, nl_100, nl_110, nl_122, nl_130, nl_144, nl_160, nl_240, nl_241, nl_255, nl_256, nl_400, nl_800, nl_900, nl_999, nl_1000, nl_1001, nl_1024, nl_1103, nl_1928, nl_4321, nl_5560, nl_12345, nl_1000000, nl_1000003, nl_252645135, nl_858993459, nl_1431655765, nl_1000000000, nI_add, pk_mul, n_sub, n_neg, n_cl, leT, leF, ltT, ltF, eqT, eqF, kbT, s_II, s_In, s_IJ, s_IA, s_IL, s_IR, s_IC, s_JI, s_JJ, s_Jn, s_JA, s_JL, s_JR, s_JC, s_AI, s_AJ, s_AA, s_An, s_AL, s_AR, s_AC, s_LI, s_LJ, s_LA, s_LL, s_Ln, s_LR, s_LC]
      · rw [e_sees hS.1 (by decide), hw]
        simp (disch := omega) only [k_let, Option.bind_some, ↓reduceIte, eq_self, true_or, or_true, n01_0, n01_1, kb_or, kb_0T, kb_0F, vn_0, vn_1, vn_k, nl_0, nl_1, nl_2, nl_3, nl_4, nl_5, nl_6, nl_7, nl_8, nl_9, nl_10, nl_11, nl_12, nl_13, nl_14, nl_15, nl_16, nl_20, nl_21, nl_22, nl_23, nl_24, nl_25, nl_26, nl_27, nl_28, nl_29, nl_30, nl_31, nl_32, nl_40, nl_41, nl_42, nl_43, nl_45, nl_47, nl_48, nl_50, nl_57, nl_59, nl_60, nl_61, nl_62, nl_63, nl_64, nl_91, nl_93, nl_94, nl_97, nl_98, nl_100, nl_110, nl_122, nl_130, nl_144, nl_160, nl_240, nl_241, nl_255, nl_256, nl_400, nl_800, nl_900, nl_999, nl_1000, nl_1001, nl_1024, nl_1103, nl_1928, nl_4321, nl_5560, nl_12345, nl_1000000, nl_1000003, nl_252645135, nl_858993459, nl_1431655765, nl_1000000000, nI_add, pk_mul, n_sub, n_neg, n_cl, leT, leF, ltT, ltF, eqT, eqF, kbT, s_II, s_In, s_IJ, s_IA, s_IL, s_IR, s_IC, s_JI, s_JJ, s_Jn, s_JA, s_JL, s_JR, s_JC, s_AI, s_AJ, s_AA, s_An, s_AL, s_AR, s_AC, s_LI, s_LJ, s_LA, s_LL, s_Ln, s_LR, s_LC, kB_f]
    rw [e0]
    exact base b S a e q hS he hw
  | succ m ih =>
    intro f x3 b S a e q hm hf hx hS he
    obtain ⟨f, rfl⟩ : ∃ k, f = k + 1 := ⟨f - 1, by omega⟩
    have hn := hS.1.1.1
    have han := hS.1.2.1
    by_cases hw : isW t n a 3 = true
    · have hx1 := tnx_lt (t := t) (n := n) (a := a) (by rw [isW_kd hw]; decide)
      obtain ⟨S1, d1, d2, d3⟩ := hS.step
      have hb2 : nB (!b) ≤ 1 := by cases b <;> decide
      have hb1 : nB b ≤ 1 := by cases b <;> decide
      have e0 : f_X7_readPlain_4 ib (f + 1) (nI d) (kB b) (nI x3) S = f_X7_readPlain_4 ib f (nI d) (kB (!b)) (nI (x3 + 1)) S1 := by
        rw [f_X7_readPlain_4]
        unfold f_X7_readPlain_29
        rw [if_neg (show ¬ (400 : Int32) ≤ nI x3 by rw [show (400 : Int32) = nI 400 from rfl, leF (by omega) (by omega)]; exact id), e_sees hS.1 (by decide), hw]
        simp only [Option.bind_some, d1]
        cases b <;> simp (disch := omega) only [k_let, Option.bind_some, ↓reduceIte, eq_self, true_or, or_true, n01_0, n01_1, kb_or, kb_0T, kb_0F, vn_0, vn_1, vn_k, nl_0, nl_1, nl_2, nl_3, nl_4, nl_5, nl_6, nl_7, nl_8, nl_9, nl_10, nl_11, nl_12, nl_13, nl_14, nl_15, nl_16, nl_20, nl_21, nl_22, nl_23, nl_24, nl_25, nl_26, nl_27, nl_28, nl_29, nl_30, nl_31, nl_32, nl_40, nl_41, nl_42, nl_43, nl_45, nl_47, nl_48, nl_50, nl_57, nl_59, nl_60, nl_61, nl_62, nl_63, nl_64, nl_91, nl_93, nl_94, nl_97, nl_98, nl_100, nl_110, nl_122, nl_130, nl_144, nl_160, nl_240, nl_241, nl_255, nl_256, nl_400, nl_800, nl_900, nl_999, nl_1000, nl_1001, nl_1024, nl_1103, nl_1928, nl_4321, nl_5560, nl_12345, nl_1000000, nl_1000003, nl_252645135, nl_858993459, nl_1431655765, nl_1000000000, nI_add, pk_mul, n_sub, n_neg, n_cl, leT, leF, ltT, ltF, eqT, eqF, kbT, s_II, s_In, s_IJ, s_IA, s_IL, s_IR, s_IC, s_JI, s_JJ, s_Jn, s_JA, s_JL, s_JR, s_JC, s_AI, s_AJ, s_AA, s_An, s_AL, s_AR, s_AC, s_LI, s_LJ, s_LA, s_LL, s_Ln, s_LR, s_LC, kB_t, kB_f, Bool.not_true, Bool.not_false]
      rw [e0]
      rcases ih f (x3 + 1) (!b) S1 (tnx t n a) e q (by omega) (by omega) (by omega) d3 (by omega) with ⟨S2, a1, e1, q1, δ, r1, c1, c2, c3, c4, c5, c6, c7, c8, c9⟩ | ⟨S2, af, e1, r1, r2, r3, r4, r5, r6⟩
      · refine Or.inl ⟨S2, a1, e1, q1, dNot δ, r1, c1, (d2.mono rfl rfl rfl rfl).trans c2, fun i hi => by rw [c3 i hi, d2.A rfl], by omega, c5, by omega, ?_, MOk.not hw c8 c9, c9.not⟩
        cases b with
        | false => exact c7
        | true =>
          show Cm _ _ _ (dNot (dNot δ)) _
          rw [dNot2]
          exact c7
      · exact Or.inr ⟨S2, af, e1, r1, (d2.mono rfl rfl rfl rfl).trans r2, r3, r4, r5, MFl.not hw r6⟩
    · have hw : isW t n a 3 = false := Bool.eq_false_iff.mpr hw
      have e0 : f_X7_readPlain_4 ib (f + 1) (nI d) (kB b) (nI x3) S = f_X7_readPlain_40 ib (nI d) (kB b) S := by
        rw [f_X7_readPlain_4]
        by_cases c : 400 ≤ x3
        · simp (disch := omega) only [k_let, Option.bind_some, ↓reduceIte, eq_self, true_or, or_true, n01_0, n01_1, kb_or, kb_0T, kb_0F, vn_0, vn_1, vn_k, nl_0, nl_1, nl_2, nl_3, nl_4, nl_5, nl_6, nl_7, nl_8, nl_9, nl_10, nl_11, nl_12, nl_13, nl_14, nl_15, nl_16, nl_20, nl_21, nl_22, nl_23, nl_24, nl_25, nl_26, nl_27, nl_28, nl_29, nl_30, nl_31, nl_32, nl_40, nl_41, nl_42, nl_43, nl_45, nl_47, nl_48, nl_50, nl_57, nl_59, nl_60, nl_61, nl_62, nl_63, nl_64, nl_91, nl_93, nl_94, nl_97, nl_98, nl_100, nl_110, nl_122, nl_130, nl_144, nl_160, nl_240, nl_241, nl_255, nl_256, nl_400, nl_800, nl_900, nl_999, nl_1000, nl_1001, nl_1024, nl_1103, nl_1928, nl_4321, nl_5560, nl_12345, nl_1000000, nl_1000003, nl_252645135, nl_858993459, nl_1431655765, nl_1000000000, nI_add, pk_mul, n_sub, n_neg, n_cl, leT, leF, ltT, ltF, eqT, eqF, kbT, s_II, s_In, s_IJ, s_IA, s_IL, s_IR, s_IC, s_JI, s_JJ, s_Jn, s_JA, s_JL, s_JR, s_JC, s_AI, s_AJ, s_AA, s_An, s_AL, s_AR, s_AC, s_LI, s_LJ, s_LA, s_LL, s_Ln, s_LR, s_LC]
        · rw [e_sees hS.1 (by decide), hw]
          simp (disch := omega) only [k_let, Option.bind_some, ↓reduceIte, eq_self, true_or, or_true, n01_0, n01_1, kb_or, kb_0T, kb_0F, vn_0, vn_1, vn_k, nl_0, nl_1, nl_2, nl_3, nl_4, nl_5, nl_6, nl_7, nl_8, nl_9, nl_10, nl_11, nl_12, nl_13, nl_14, nl_15, nl_16, nl_20, nl_21, nl_22, nl_23, nl_24, nl_25, nl_26, nl_27, nl_28, nl_29, nl_30, nl_31, nl_32, nl_40, nl_41, nl_42, nl_43, nl_45, nl_47, nl_48, nl_50, nl_57, nl_59, nl_60, nl_61, nl_62, nl_63, nl_64, nl_91, nl_93, nl_94, nl_97, nl_98, nl_100, nl_110, nl_122, nl_130, nl_144, nl_160, nl_240, nl_241, nl_255, nl_256, nl_400, nl_800, nl_900, nl_999, nl_1000, nl_1001, nl_1024, nl_1103, nl_1928, nl_4321, nl_5560, nl_12345, nl_1000000, nl_1000003, nl_252645135, nl_858993459, nl_1431655765, nl_1000000000, nI_add, pk_mul, n_sub, n_neg, n_cl, leT, leF, ltT, ltF, eqT, eqF, kbT, s_II, s_In, s_IJ, s_IA, s_IL, s_IR, s_IC, s_JI, s_JJ, s_Jn, s_JA, s_JL, s_JR, s_JC, s_AI, s_AJ, s_AA, s_An, s_AL, s_AR, s_AC, s_LI, s_LJ, s_LA, s_LL, s_Ln, s_LR, s_LC, kB_f]
      rw [e0]
      exact base b S a e q hS he hw
theorem c_Plain {t : Nat → Nat} {n tb a e q d : Nat} {ib : Int32 → Int32 → St → Option (Int32 × St)} {S : St} (hib : IB t n tb ib d) (hS : Cs t n a e q S) (he : e ≤ a) : CRes (f_X7_readPlain ib (nI d) S) t n tb 0 2 4 3 d S a e q (fun _ => True) := by
  have F1 : 1000 < FU := FU_ge (by decide)
  have hn := hS.1.1.1
  unfold f_X7_readPlain
  rcases l_plain hib (n - a) FU 0 false S a e q (Nat.le_refl _) (by omega) (by omega) hS (by show e + 0 ≤ a; omega) with ⟨S2, a1, e1, q1, δ, r1, c1, c2, c3, c4, c5, c6, c7, c8, c9⟩ | h
  · exact Or.inl ⟨S2, a1, e1, q1, δ, r1, ⟨c1, c2, c3, by have : nB false = 0 := rfl; omega, c5, c6, c7, c8⟩, trivial, fun _ => c9⟩
  · exact Or.inr h
theorem dC_j : ∀ e, e ≤ 400 → dC (nI 15) (nI (2 * e)) = (11, (e : Int)) ∧ dC (nI 14) (nI (2 * e)) = (10, (e : Int)) := by decide +kernel
theorem l_Both {t : Nat → Nat} {n tb d a0 e0 q0 : Nat} {ib : Int32 → Int32 → St → Option (Int32 × St)} {S0 : St} (hib : IB t n tb ib d) (he0 : e0 ≤ a0) : ∀ (m f x3 : Nat) (S : St) (a e q : Nat) (δ : Den), n - a ≤ m → m + 1 < f → x3 ≤ a → COk t n tb 0 2 2 2 d S0 a0 e0 q0 S a e q δ → True → T01 δ → CRes (f_X7_readBoth_8 ib f (nI d) (nI 1) (nI x3) S) t n tb 0 2 2 2 d S0 a0 e0 q0 (fun a => isW t n a 4 = false) := by
  intro m
  induction m with
  | zero =>
    intro f x3 S a e q δ hm hf hx h _ h01
    obtain ⟨f, rfl⟩ : ∃ k, f = k + 1 := ⟨f - 1, by omega⟩
    have hn := h.1.1.1.1
    have han := h.1.1.2.1
    have k0 : kd t n a = 0 := by unfold kd; rw [if_pos (by omega)]
    have now : ∀ i, isW t n a i = false := fun i => by
      cases z : isW t n a i with
      | false => rfl
      | true => have := isW_kd z; omega
    refine Or.inl ⟨S, a, e, q, δ, ?_, h, now 4, fun _ => h01⟩
    rw [f_X7_readBoth_8]
    unfold f_X7_readBoth_59
    by_cases c : 400 ≤ x3
    · simp (disch := omega) only [k_let, Option.bind_some, ↓reduceIte, eq_self, true_or, or_true, n01_0, n01_1, kb_or, kb_0T, kb_0F, vn_0, vn_1, vn_k, nl_0, nl_1, nl_2, nl_3, nl_4, nl_5, nl_6, nl_7, nl_8, nl_9, nl_10, nl_11, nl_12, nl_13, nl_14, nl_15, nl_16, nl_20, nl_21, nl_22, nl_23, nl_24, nl_25, nl_26, nl_27, nl_28, nl_29, nl_30, nl_31, nl_32, nl_40, nl_41, nl_42, nl_43, nl_45, nl_47, nl_48, nl_50, nl_57, nl_59, nl_60, nl_61, nl_62, nl_63, nl_64, nl_91, nl_93, nl_94, nl_97, nl_98, nl_100, nl_110, nl_122, nl_130, nl_144, nl_160, nl_240, nl_241, nl_255, nl_256, nl_400, nl_800, nl_900, nl_999, nl_1000, nl_1001, nl_1024, nl_1103, nl_1928, nl_4321, nl_5560, nl_12345, nl_1000000, nl_1000003, nl_252645135, nl_858993459, nl_1431655765, nl_1000000000, nI_add, pk_mul, n_sub, n_neg, n_cl, leT, leF, ltT, ltF, eqT, eqF, kbT, s_II, s_In, s_IJ, s_IA, s_IL, s_IR, s_IC, s_JI, s_JJ, s_Jn, s_JA, s_JL, s_JR, s_JC, s_AI, s_AJ, s_AA, s_An, s_AL, s_AR, s_AC, s_LI, s_LJ, s_LA, s_LL, s_Ln, s_LR, s_LC]
    · rw [e_sees h.1.1 (by decide), now]
      simp (disch := omega) only [k_let, Option.bind_some, ↓reduceIte, eq_self, true_or, or_true, n01_0, n01_1, kb_or, kb_0T, kb_0F, vn_0, vn_1, vn_k, nl_0, nl_1, nl_2, nl_3, nl_4, nl_5, nl_6, nl_7, nl_8, nl_9, nl_10, nl_11, nl_12, nl_13, nl_14, nl_15, nl_16, nl_20, nl_21, nl_22, nl_23, nl_24, nl_25, nl_26, nl_27, nl_28, nl_29, nl_30, nl_31, nl_32, nl_40, nl_41, nl_42, nl_43, nl_45, nl_47, nl_48, nl_50, nl_57, nl_59, nl_60, nl_61, nl_62, nl_63, nl_64, nl_91, nl_93, nl_94, nl_97, nl_98, nl_100, nl_110, nl_122, nl_130, nl_144, nl_160, nl_240, nl_241, nl_255, nl_256, nl_400, nl_800, nl_900, nl_999, nl_1000, nl_1001, nl_1024, nl_1103, nl_1928, nl_4321, nl_5560, nl_12345, nl_1000000, nl_1000003, nl_252645135, nl_858993459, nl_1431655765, nl_1000000000, nI_add, pk_mul, n_sub, n_neg, n_cl, leT, leF, ltT, ltF, eqT, eqF, kbT, s_II, s_In, s_IJ, s_IA, s_IL, s_IR, s_IC, s_JI, s_JJ, s_Jn, s_JA, s_JL, s_JR, s_JC, s_AI, s_AJ, s_AA, s_An, s_AL, s_AR, s_AC, s_LI, s_LJ, s_LA, s_LL, s_Ln, s_LR, s_LC, kB_f]
  | succ m ih =>
    intro f x3 S a e q δ hm hf hx h _ h01
    obtain ⟨f, rfl⟩ : ∃ k, f = k + 1 := ⟨f - 1, by omega⟩
    have hn := h.1.1.1.1
    have han := h.1.1.2.1
    by_cases hw : isW t n a 4 = true
    · have hx1 := tnx_lt (t := t) (n := n) (a := a) (by rw [isW_kd hw]; decide)
      obtain ⟨h1, h2, h3, h4, h5, h6, h7, h8⟩ := h
      obtain ⟨S1, p1, p2, p3, p4, p5⟩ := e_put h1.2.1 h1.2.2.2.1 (nI 15) (nI 0)
      rw [show min (e + 1) 400 = e + 1 by omega] at p3
      obtain ⟨w1, w2⟩ := p5 (by omega)
      have cs1 : Cs t n a (e + 1) q S1 := ⟨h1.1.fr p2 rfl rfl rfl rfl rfl rfl, p3, (p2.I rfl).trans h1.2.2.1, by omega, h1.2.2.2.2⟩
      obtain ⟨S2, d1, d2, d3⟩ := cs1.step
      have f02 : FC S0 S2 := (h2.trans (p2.mono rfl rfl rfl rfl)).trans (d2.mono rfl rfl rfl rfl)
      rw [f_X7_readBoth_8]
      simp (disch := omega) only [k_let, Option.bind_some, ↓reduceIte, eq_self, true_or, or_true, n01_0, n01_1, kb_or, kb_0T, kb_0F, vn_0, vn_1, vn_k, nl_0, nl_1, nl_2, nl_3, nl_4, nl_5, nl_6, nl_7, nl_8, nl_9, nl_10, nl_11, nl_12, nl_13, nl_14, nl_15, nl_16, nl_20, nl_21, nl_22, nl_23, nl_24, nl_25, nl_26, nl_27, nl_28, nl_29, nl_30, nl_31, nl_32, nl_40, nl_41, nl_42, nl_43, nl_45, nl_47, nl_48, nl_50, nl_57, nl_59, nl_60, nl_61, nl_62, nl_63, nl_64, nl_91, nl_93, nl_94, nl_97, nl_98, nl_100, nl_110, nl_122, nl_130, nl_144, nl_160, nl_240, nl_241, nl_255, nl_256, nl_400, nl_800, nl_900, nl_999, nl_1000, nl_1001, nl_1024, nl_1103, nl_1928, nl_4321, nl_5560, nl_12345, nl_1000000, nl_1000003, nl_252645135, nl_858993459, nl_1431655765, nl_1000000000, nI_add, pk_mul, n_sub, n_neg, n_cl, leT, leF, ltT, ltF, eqT, eqF, kbT, s_II, s_In, s_IJ, s_IA, s_IL, s_IR, s_IC, s_JI, s_JJ, s_Jn, s_JA, s_JL, s_JR, s_JC, s_AI, s_AJ, s_AA, s_An, s_AL, s_AR, s_AC, s_LI, s_LJ, s_LA, s_LL, s_Ln, s_LR, s_LC]
      rw [e_sees h1.1 (by decide), hw]
      simp (disch := omega) only [k_let, Option.bind_some, ↓reduceIte, eq_self, true_or, or_true, n01_0, n01_1, kb_or, kb_0T, kb_0F, vn_0, vn_1, vn_k, nl_0, nl_1, nl_2, nl_3, nl_4, nl_5, nl_6, nl_7, nl_8, nl_9, nl_10, nl_11, nl_12, nl_13, nl_14, nl_15, nl_16, nl_20, nl_21, nl_22, nl_23, nl_24, nl_25, nl_26, nl_27, nl_28, nl_29, nl_30, nl_31, nl_32, nl_40, nl_41, nl_42, nl_43, nl_45, nl_47, nl_48, nl_50, nl_57, nl_59, nl_60, nl_61, nl_62, nl_63, nl_64, nl_91, nl_93, nl_94, nl_97, nl_98, nl_100, nl_110, nl_122, nl_130, nl_144, nl_160, nl_240, nl_241, nl_255, nl_256, nl_400, nl_800, nl_900, nl_999, nl_1000, nl_1001, nl_1024, nl_1103, nl_1928, nl_4321, nl_5560, nl_12345, nl_1000000, nl_1000003, nl_252645135, nl_858993459, nl_1431655765, nl_1000000000, nI_add, pk_mul, n_sub, n_neg, n_cl, leT, leF, ltT, ltF, eqT, eqF, kbT, s_II, s_In, s_IJ, s_IA, s_IL, s_IR, s_IC, s_JI, s_JJ, s_Jn, s_JA, s_JL, s_JR, s_JC, s_AI, s_AJ, s_AA, s_An, s_AL, s_AR, s_AC, s_LI, s_LJ, s_LA, s_LL, s_Ln, s_LR, s_LC, kB_t]
      rw [p1]
      simp only [Option.bind_some]
      rw [d1]
      simp only [Option.bind_some]
      rcases c_Plain hib d3 (by omega) with ⟨S3, a3, e3, q3, δ3, g1, ⟨c1, c2, c3, c4, c5, c6, c7, c8⟩, g3, g4⟩ | ⟨S3, af, e3, g1, g2, g3, g4, g5, g6⟩
      · rw [g1]
        simp only [Option.bind_some]
        obtain ⟨S4, z1, z2, z3, z4⟩ := e_lead (S := S3) (e := e) (by omega)
        have z4 := z4 (by omega)
        rw [z1]
        simp only [Option.bind_some]
        have hcc := c7.1.1
        have hcc1 := h7.1.1
        have ha3 := c1.1.2.1
        have h01' : T01 (dAnd δ δ3) := h01.and (g4 rfl)
        refine ih f (x3 + 1) S4 a3 e3 q3 (dAnd δ δ3) (by omega) (by omega) (by omega) ⟨⟨c1.1.fr z2 rfl rfl rfl rfl rfl rfl, (z2.I rfl).trans c1.2.1, (z2.I rfl).trans c1.2.2.1, c1.2.2.2⟩, f02.trans (c2.trans (z2.mono rfl rfl rfl rfl)), fun i hi => ?_, by omega, by omega, by omega, ?_, ?_⟩ trivial h01'
        · rw [z3 i (by omega), c3 i (by omega), d2.A rfl, p4 i (by omega), h3 i hi]
        · refine (Cm.and (h7.row (b := gA S4 24) (fun k hk => ?_)) ?_ (c7.congr (F := Fc (gA S3 24)) (G := Fc (gA S4 24)) (fun p y1 y2 => ?_))).mono (by omega)
          · rw [z3 k (by omega), c3 k (by omega), d2.A rfl, p4 k hk]
          · have w3 : gA S4 24 (2 * e) = nI 15 := by rw [z3 _ (by omega), c3 _ (by omega), d2.A rfl, w1]
            rw [Fc_at w3 (z4.trans c1.2.1)]
            exact (dC_j e3 c1.2.2.2.1).1
          · unfold Fc
            rw [z3 _ (by omega), z3 _ (by omega)]
        · have := MOk.ao (Lc2 := 4) (Lq2 := 3) (op := 28) (Or.inl ⟨rfl, rfl, rfl⟩) (by decide) h8 hw c8 (by omega) (by omega)
          exact this
      · rw [g1]
        simp only [Option.bind_some]
        obtain ⟨S4, z1, z2, -, -⟩ := e_lead (S := S3) (e := e) (by omega)
        rw [z1]
        simp only [Option.bind_some]
        obtain ⟨f, rfl⟩ : ∃ k, f = k + 1 := ⟨f - 1, by omega⟩
        refine Or.inr ⟨S4, af, e3, ?_, f02.trans (g2.trans (z2.mono rfl rfl rfl rfl)), (z2.I rfl).trans g3, (z2.I rfl).trans g4, g5, MFl.ao (Lc2 := 4) (op := 28) (Or.inl ⟨rfl, rfl, rfl⟩) (by decide) h8 hw g6⟩
        rw [f_X7_readBoth_8]
        unfold f_X7_readBoth_59
        by_cases c : 400 ≤ x3 + 1
        · simp (disch := omega) only [k_let, Option.bind_some, ↓reduceIte, eq_self, true_or, or_true, n01_0, n01_1, kb_or, kb_0T, kb_0F, vn_0, vn_1, vn_k, nl_0, nl_1, nl_2, nl_3, nl_4, nl_5, nl_6, nl_7, nl_8, nl_9, nl_10, nl_11, nl_12, nl_13, nl_14, nl_15, nl_16, nl_20, nl_21, nl_22, nl_23, nl_24, nl_25, nl_26, nl_27, nl_28, nl_29, nl_30, nl_31, nl_32, nl_40, nl_41, nl_42, nl_43, nl_45, nl_47, nl_48, nl_50, nl_57, nl_59, nl_60, nl_61, nl_62, nl_63, nl_64, nl_91, nl_93, nl_94, nl_97, nl_98, nl_100, nl_110, nl_122, nl_130, nl_144, nl_160, nl_240, nl_241, nl_255, nl_256, nl_400, nl_800, nl_900, nl_999, nl_1000, nl_1001, nl_1024, nl_1103, nl_1928, nl_4321, nl_5560, nl_12345, nl_1000000, nl_1000003, nl_252645135, nl_858993459, nl_1431655765, nl_1000000000, nI_add, pk_mul, n_sub, n_neg, n_cl, leT, leF, ltT, ltF, eqT, eqF, kbT, s_II, s_In, s_IJ, s_IA, s_IL, s_IR, s_IC, s_JI, s_JJ, s_Jn, s_JA, s_JL, s_JR, s_JC, s_AI, s_AJ, s_AA, s_An, s_AL, s_AR, s_AC, s_LI, s_LJ, s_LA, s_LL, s_Ln, s_LR, s_LC]
        · simp (disch := omega) only [k_let, Option.bind_some, ↓reduceIte, eq_self, true_or, or_true, n01_0, n01_1, kb_or, kb_0T, kb_0F, vn_0, vn_1, vn_k, nl_0, nl_1, nl_2, nl_3, nl_4, nl_5, nl_6, nl_7, nl_8, nl_9, nl_10, nl_11, nl_12, nl_13, nl_14, nl_15, nl_16, nl_20, nl_21, nl_22, nl_23, nl_24, nl_25, nl_26, nl_27, nl_28, nl_29, nl_30, nl_31, nl_32, nl_40, nl_41, nl_42, nl_43, nl_45, nl_47, nl_48, nl_50, nl_57, nl_59, nl_60, nl_61, nl_62, nl_63, nl_64, nl_91, nl_93, nl_94, nl_97, nl_98, nl_100, nl_110, nl_122, nl_130, nl_144, nl_160, nl_240, nl_241, nl_255, nl_256, nl_400, nl_800, nl_900, nl_999, nl_1000, nl_1001, nl_1024, nl_1103, nl_1928, nl_4321, nl_5560, nl_12345, nl_1000000, nl_1000003, nl_252645135, nl_858993459, nl_1431655765, nl_1000000000, nI_add, pk_mul, n_sub, n_neg, n_cl, leT, leF, ltT, ltF, eqT, eqF, kbT, s_II, s_In, s_IJ, s_IA, s_IL, s_IR, s_IC, s_JI, s_JJ, s_Jn, s_JA, s_JL, s_JR, s_JC, s_AI, s_AJ, s_AA, s_An, s_AL, s_AR, s_AC, s_LI, s_LJ, s_LA, s_LL, s_Ln, s_LR, s_LC]
    · have hw : isW t n a 4 = false := Bool.eq_false_iff.mpr hw
      refine Or.inl ⟨S, a, e, q, δ, ?_, h, hw, fun _ => h01⟩
      rw [f_X7_readBoth_8]
      unfold f_X7_readBoth_59
      by_cases c : 400 ≤ x3
      · simp (disch := omega) only [k_let, Option.bind_some, ↓reduceIte, eq_self, true_or, or_true, n01_0, n01_1, kb_or, kb_0T, kb_0F, vn_0, vn_1, vn_k, nl_0, nl_1, nl_2, nl_3, nl_4, nl_5, nl_6, nl_7, nl_8, nl_9, nl_10, nl_11, nl_12, nl_13, nl_14, nl_15, nl_16, nl_20, nl_21, nl_22, nl_23, nl_24, nl_25, nl_26, nl_27, nl_28, nl_29, nl_30, nl_31, nl_32, nl_40, nl_41, nl_42, nl_43, nl_45, nl_47, nl_48, nl_50, nl_57, nl_59, nl_60, nl_61, nl_62, nl_63, nl_64, nl_91, nl_93, nl_94, nl_97, nl_98, nl_100, nl_110, nl_122, nl_130, nl_144, nl_160, nl_240, nl_241, nl_255, nl_256, nl_400, nl_800, nl_900, nl_999, nl_1000, nl_1001, nl_1024, nl_1103, nl_1928, nl_4321, nl_5560, nl_12345, nl_1000000, nl_1000003, nl_252645135, nl_858993459, nl_1431655765, nl_1000000000, nI_add, pk_mul, n_sub, n_neg, n_cl, leT, leF, ltT, ltF, eqT, eqF, kbT, s_II, s_In, s_IJ, s_IA, s_IL, s_IR, s_IC, s_JI, s_JJ, s_Jn, s_JA, s_JL, s_JR, s_JC, s_AI, s_AJ, s_AA, s_An, s_AL, s_AR, s_AC, s_LI, s_LJ, s_LA, s_LL, s_Ln, s_LR, s_LC]
      · simp (disch := omega) only [k_let, Option.bind_some, ↓reduceIte, eq_self, true_or, or_true, n01_0, n01_1, kb_or, kb_0T, kb_0F, vn_0, vn_1, vn_k, nl_0, nl_1, nl_2, nl_3, nl_4, nl_5, nl_6, nl_7, nl_8, nl_9, nl_10, nl_11, nl_12, nl_13, nl_14, nl_15, nl_16, nl_20, nl_21, nl_22, nl_23, nl_24, nl_25, nl_26, nl_27, nl_28, nl_29, nl_30, nl_31, nl_32, nl_40, nl_41, nl_42, nl_43, nl_45, nl_47, nl_48, nl_50, nl_57, nl_59, nl_60, nl_61, nl_62, nl_63, nl_64, nl_91, nl_93, nl_94, nl_97, nl_98, nl_100, nl_110, nl_122, nl_130, nl_144, nl_160, nl_240, nl_241, nl_255, nl_256, nl_400, nl_800, nl_900, nl_999, nl_1000, nl_1001, nl_1024, nl_1103, nl_1928, nl_4321, nl_5560, nl_12345, nl_1000000, nl_1000003, nl_252645135, nl_858993459, nl_1431655765, nl_1000000000, nI_add, pk_mul, n_sub, n_neg, n_cl, leT, leF, ltT, ltF, eqT, eqF, kbT, s_II, s_In, s_IJ, s_IA, s_IL, s_IR, s_IC, s_JI, s_JJ, s_Jn, s_JA, s_JL, s_JR, s_JC, s_AI, s_AJ, s_AA, s_An, s_AL, s_AR, s_AC, s_LI, s_LJ, s_LA, s_LL, s_Ln, s_LR, s_LC]
        rw [e_sees h.1.1 (by decide), hw]
        simp (disch := omega) only [k_let, Option.bind_some, ↓reduceIte, eq_self, true_or, or_true, n01_0, n01_1, kb_or, kb_0T, kb_0F, vn_0, vn_1, vn_k, nl_0, nl_1, nl_2, nl_3, nl_4, nl_5, nl_6, nl_7, nl_8, nl_9, nl_10, nl_11, nl_12, nl_13, nl_14, nl_15, nl_16, nl_20, nl_21, nl_22, nl_23, nl_24, nl_25, nl_26, nl_27, nl_28, nl_29, nl_30, nl_31, nl_32, nl_40, nl_41, nl_42, nl_43, nl_45, nl_47, nl_48, nl_50, nl_57, nl_59, nl_60, nl_61, nl_62, nl_63, nl_64, nl_91, nl_93, nl_94, nl_97, nl_98, nl_100, nl_110, nl_122, nl_130, nl_144, nl_160, nl_240, nl_241, nl_255, nl_256, nl_400, nl_800, nl_900, nl_999, nl_1000, nl_1001, nl_1024, nl_1103, nl_1928, nl_4321, nl_5560, nl_12345, nl_1000000, nl_1000003, nl_252645135, nl_858993459, nl_1431655765, nl_1000000000, nI_add, pk_mul, n_sub, n_neg, n_cl, leT, leF, ltT, ltF, eqT, eqF, kbT, s_II, s_In, s_IJ, s_IA, s_IL, s_IR, s_IC, s_JI, s_JJ, s_Jn, s_JA, s_JL, s_JR, s_JC, s_AI, s_AJ, s_AA, s_An, s_AL, s_AR, s_AC, s_LI, s_LJ, s_LA, s_LL, s_Ln, s_LR, s_LC, kB_f]
theorem c_Both {t : Nat → Nat} {n tb a e q d : Nat} {ib : Int32 → Int32 → St → Option (Int32 × St)} {S : St} (hib : IB t n tb ib d) (hS : Cs t n a e q S) (he : e ≤ a) : CRes (f_X7_readBoth ib (nI d) S) t n tb 0 2 2 2 d S a e q (fun a => isW t n a 4 = false) := by
  have F1 : 1000 < FU := FU_ge (by decide)
  have hn := hS.1.1.1
  unfold f_X7_readBoth
  rcases c_Plain hib hS he with ⟨S1, a1, e1, q1, δ, r1, ⟨b1, b2, b3, b4, b5, b6, b7, b8⟩, r3, r4⟩ | ⟨S1, af, e1, r1, r2, r3, r4, r5, r6⟩
  · rw [r1]
    simp only [Option.bind_some]
    exact l_Both hib he (n - a1) FU 0 S1 a1 e1 q1 δ (Nat.le_refl _) (by omega) (by omega) ⟨b1, b2, b3, b4, b5, b6, b7, b8.mono (by decide) (by decide)⟩ trivial (r4 rfl)
  · rw [r1]
    simp only [Option.bind_some]
    obtain ⟨k, hk⟩ : ∃ k, FU = k + 1 := ⟨FU - 1, by omega⟩
    refine Or.inr ⟨S1, af, e1, ?_, r2, r3, r4, r5, r6.mono (by decide)⟩
    rw [hk, f_X7_readBoth_8]
    unfold f_X7_readBoth_59
    simp (disch := omega) only [k_let, Option.bind_some, ↓reduceIte, eq_self, true_or, or_true, n01_0, n01_1, kb_or, kb_0T, kb_0F, vn_0, vn_1, vn_k, nl_0, nl_1, nl_2, nl_3, nl_4, nl_5, nl_6, nl_7, nl_8, nl_9, nl_10, nl_11, nl_12, nl_13, nl_14, nl_15, nl_16, nl_20, nl_21, nl_22, nl_23, nl_24, nl_25, nl_26, nl_27, nl_28, nl_29, nl_30, nl_31, nl_32, nl_40, nl_41, nl_42, nl_43, nl_45, nl_47, nl_48, nl_50, nl_57, nl_59, nl_60, nl_61, nl_62, nl_63, nl_64, nl_91, nl_93, nl_94, nl_97, nl_98, nl_100, nl_110, nl_122, nl_130, nl_144, nl_160, nl_240, nl_241, nl_255, nl_256, nl_400, nl_800, nl_900, nl_999, nl_1000, nl_1001, nl_1024, nl_1103, nl_1928, nl_4321, nl_5560, nl_12345, nl_1000000, nl_1000003, nl_252645135, nl_858993459, nl_1431655765, nl_1000000000, nI_add, pk_mul, n_sub, n_neg, n_cl, leT, leF, ltT, ltF, eqT, eqF, kbT, s_II, s_In, s_IJ, s_IA, s_IL, s_IR, s_IC, s_JI, s_JJ, s_Jn, s_JA, s_JL, s_JR, s_JC, s_AI, s_AJ, s_AA, s_An, s_AL, s_AR, s_AC, s_LI, s_LJ, s_LA, s_LL, s_Ln, s_LR, s_LC]
theorem l_Test {t : Nat → Nat} {n tb d a0 e0 q0 : Nat} {ib : Int32 → Int32 → St → Option (Int32 × St)} {S0 : St} (hib : IB t n tb ib d) (he0 : e0 ≤ a0) : ∀ (m f x3 : Nat) (S : St) (a e q : Nat) (δ : Den), n - a ≤ m → m + 1 < f → x3 ≤ a → COk t n tb 0 2 1 1 d S0 a0 e0 q0 S a e q δ → isW t n a 4 = false → T01 δ → CRes (f_X7_readTest_8 ib f (nI d) (nI 1) (nI x3) S) t n tb 0 2 1 1 d S0 a0 e0 q0 (fun a => isW t n a 4 = false ∧ isW t n a 5 = false) := by
  intro m
  induction m with
  | zero =>
    intro f x3 S a e q δ hm hf hx h hla h01
    obtain ⟨f, rfl⟩ : ∃ k, f = k + 1 := ⟨f - 1, by omega⟩
    have hn := h.1.1.1.1
    have han := h.1.1.2.1
    have k0 : kd t n a = 0 := by unfold kd; rw [if_pos (by omega)]
    have now : ∀ i, isW t n a i = false := fun i => by
      cases z : isW t n a i with
      | false => rfl
      | true => have := isW_kd z; omega
    refine Or.inl ⟨S, a, e, q, δ, ?_, h, ⟨now 4, now 5⟩, fun _ => h01⟩
    rw [f_X7_readTest_8]
    unfold f_X7_readTest_59
    by_cases c : 400 ≤ x3
    · simp (disch := omega) only [k_let, Option.bind_some, ↓reduceIte, eq_self, true_or, or_true, n01_0, n01_1, kb_or, kb_0T, kb_0F, vn_0, vn_1, vn_k, nl_0, nl_1, nl_2, nl_3, nl_4, nl_5, nl_6, nl_7, nl_8, nl_9, nl_10, nl_11, nl_12, nl_13, nl_14, nl_15, nl_16, nl_20, nl_21, nl_22, nl_23, nl_24, nl_25, nl_26, nl_27, nl_28, nl_29, nl_30, nl_31, nl_32, nl_40, nl_41, nl_42, nl_43, nl_45, nl_47, nl_48, nl_50, nl_57, nl_59, nl_60, nl_61, nl_62, nl_63, nl_64, nl_91, nl_93, nl_94, nl_97, nl_98, nl_100, nl_110, nl_122, nl_130, nl_144, nl_160, nl_240, nl_241, nl_255, nl_256, nl_400, nl_800, nl_900, nl_999, nl_1000, nl_1001, nl_1024, nl_1103, nl_1928, nl_4321, nl_5560, nl_12345, nl_1000000, nl_1000003, nl_252645135, nl_858993459, nl_1431655765, nl_1000000000, nI_add, pk_mul, n_sub, n_neg, n_cl, leT, leF, ltT, ltF, eqT, eqF, kbT, s_II, s_In, s_IJ, s_IA, s_IL, s_IR, s_IC, s_JI, s_JJ, s_Jn, s_JA, s_JL, s_JR, s_JC, s_AI, s_AJ, s_AA, s_An, s_AL, s_AR, s_AC, s_LI, s_LJ, s_LA, s_LL, s_Ln, s_LR, s_LC]
    · rw [e_sees h.1.1 (by decide), now]
      simp (disch := omega) only [k_let, Option.bind_some, ↓reduceIte, eq_self, true_or, or_true, n01_0, n01_1, kb_or, kb_0T, kb_0F, vn_0, vn_1, vn_k, nl_0, nl_1, nl_2, nl_3, nl_4, nl_5, nl_6, nl_7, nl_8, nl_9, nl_10, nl_11, nl_12, nl_13, nl_14, nl_15, nl_16, nl_20, nl_21, nl_22, nl_23, nl_24, nl_25, nl_26, nl_27, nl_28, nl_29, nl_30, nl_31, nl_32, nl_40, nl_41, nl_42, nl_43, nl_45, nl_47, nl_48, nl_50, nl_57, nl_59, nl_60, nl_61, nl_62, nl_63, nl_64, nl_91, nl_93, nl_94, nl_97, nl_98, nl_100, nl_110, nl_122, nl_130, nl_144, nl_160, nl_240, nl_241, nl_255, nl_256, nl_400, nl_800, nl_900, nl_999, nl_1000, nl_1001, nl_1024, nl_1103, nl_1928, nl_4321, nl_5560, nl_12345, nl_1000000, nl_1000003, nl_252645135, nl_858993459, nl_1431655765, nl_1000000000, nI_add, pk_mul, n_sub, n_neg, n_cl, leT, leF, ltT, ltF, eqT, eqF, kbT, s_II, s_In, s_IJ, s_IA, s_IL, s_IR, s_IC, s_JI, s_JJ, s_Jn, s_JA, s_JL, s_JR, s_JC, s_AI, s_AJ, s_AA, s_An, s_AL, s_AR, s_AC, s_LI, s_LJ, s_LA, s_LL, s_Ln, s_LR, s_LC, kB_f]
  | succ m ih =>
    intro f x3 S a e q δ hm hf hx h hla h01
    obtain ⟨f, rfl⟩ : ∃ k, f = k + 1 := ⟨f - 1, by omega⟩
    have hn := h.1.1.1.1
    have han := h.1.1.2.1
    by_cases hw : isW t n a 5 = true
    · have hx1 := tnx_lt (t := t) (n := n) (a := a) (by rw [isW_kd hw]; decide)
      obtain ⟨h1, h2, h3, h4, h5, h6, h7, h8⟩ := h
      obtain ⟨S1, p1, p2, p3, p4, p5⟩ := e_put h1.2.1 h1.2.2.2.1 (nI 14) (nI 0)
      rw [show min (e + 1) 400 = e + 1 by omega] at p3
      obtain ⟨w1, w2⟩ := p5 (by omega)
      have cs1 : Cs t n a (e + 1) q S1 := ⟨h1.1.fr p2 rfl rfl rfl rfl rfl rfl, p3, (p2.I rfl).trans h1.2.2.1, by omega, h1.2.2.2.2⟩
      obtain ⟨S2, d1, d2, d3⟩ := cs1.step
      have f02 : FC S0 S2 := (h2.trans (p2.mono rfl rfl rfl rfl)).trans (d2.mono rfl rfl rfl rfl)
      rw [f_X7_readTest_8]
      simp (disch := omega) only [k_let, Option.bind_some, ↓reduceIte, eq_self, true_or, or_true, n01_0, n01_1, kb_or, kb_0T, kb_0F, vn_0, vn_1, vn_k, nl_0, nl_1, nl_2, nl_3, nl_4, nl_5, nl_6, nl_7, nl_8, nl_9, nl_10, nl_11, nl_12, nl_13, nl_14, nl_15, nl_16, nl_20, nl_21, nl_22, nl_23, nl_24, nl_25, nl_26, nl_27, nl_28, nl_29, nl_30, nl_31, nl_32, nl_40, nl_41, nl_42, nl_43, nl_45, nl_47, nl_48, nl_50, nl_57, nl_59, nl_60, nl_61, nl_62, nl_63, nl_64, nl_91, nl_93, nl_94, nl_97, nl_98, nl_100, nl_110, nl_122, nl_130, nl_144, nl_160, nl_240, nl_241, nl_255, nl_256, nl_400, nl_800, nl_900, nl_999, nl_1000, nl_1001, nl_1024, nl_1103, nl_1928, nl_4321, nl_5560, nl_12345, nl_1000000, nl_1000003, nl_252645135, nl_858993459, nl_1431655765, nl_1000000000, nI_add, pk_mul, n_sub, n_neg, n_cl, leT, leF, ltT, ltF, eqT, eqF, kbT, s_II, s_In, s_IJ, s_IA, s_IL, s_IR, s_IC, s_JI, s_JJ, s_Jn, s_JA, s_JL, s_JR, s_JC, s_AI, s_AJ, s_AA, s_An, s_AL, s_AR, s_AC, s_LI, s_LJ, s_LA, s_LL, s_Ln, s_LR, s_LC]
      rw [e_sees h1.1 (by decide), hw]
      simp (disch := omega) only [k_let, Option.bind_some, ↓reduceIte, eq_self, true_or, or_true, n01_0, n01_1, kb_or, kb_0T, kb_0F, vn_0, vn_1, vn_k, nl_0, nl_1, nl_2, nl_3, nl_4, nl_5, nl_6, nl_7, nl_8, nl_9, nl_10, nl_11, nl_12, nl_13, nl_14, nl_15, nl_16, nl_20, nl_21, nl_22, nl_23, nl_24, nl_25, nl_26, nl_27, nl_28, nl_29, nl_30, nl_31, nl_32, nl_40, nl_41, nl_42, nl_43, nl_45, nl_47, nl_48, nl_50, nl_57, nl_59, nl_60, nl_61, nl_62, nl_63, nl_64, nl_91, nl_93, nl_94, nl_97, nl_98, nl_100, nl_110, nl_122, nl_130, nl_144, nl_160, nl_240, nl_241, nl_255, nl_256, nl_400, nl_800, nl_900, nl_999, nl_1000, nl_1001, nl_1024, nl_1103, nl_1928, nl_4321, nl_5560, nl_12345, nl_1000000, nl_1000003, nl_252645135, nl_858993459, nl_1431655765, nl_1000000000, nI_add, pk_mul, n_sub, n_neg, n_cl, leT, leF, ltT, ltF, eqT, eqF, kbT, s_II, s_In, s_IJ, s_IA, s_IL, s_IR, s_IC, s_JI, s_JJ, s_Jn, s_JA, s_JL, s_JR, s_JC, s_AI, s_AJ, s_AA, s_An, s_AL, s_AR, s_AC, s_LI, s_LJ, s_LA, s_LL, s_Ln, s_LR, s_LC, kB_t]
      rw [p1]
      simp only [Option.bind_some]
      rw [d1]
      simp only [Option.bind_some]
      rcases c_Both hib d3 (by omega) with ⟨S3, a3, e3, q3, δ3, g1, ⟨c1, c2, c3, c4, c5, c6, c7, c8⟩, g3, g4⟩ | ⟨S3, af, e3, g1, g2, g3, g4, g5, g6⟩
      · rw [g1]
        simp only [Option.bind_some]
        obtain ⟨S4, z1, z2, z3, z4⟩ := e_lead (S := S3) (e := e) (by omega)
        have z4 := z4 (by omega)
        rw [z1]
        simp only [Option.bind_some]
        have hcc := c7.1.1
        have hcc1 := h7.1.1
        have ha3 := c1.1.2.1
        have h01' : T01 (dOr δ δ3) := h01.or (g4 rfl)
        refine ih f (x3 + 1) S4 a3 e3 q3 (dOr δ δ3) (by omega) (by omega) (by omega) ⟨⟨c1.1.fr z2 rfl rfl rfl rfl rfl rfl, (z2.I rfl).trans c1.2.1, (z2.I rfl).trans c1.2.2.1, c1.2.2.2⟩, f02.trans (c2.trans (z2.mono rfl rfl rfl rfl)), fun i hi => ?_, by omega, by omega, by omega, ?_, ?_⟩ g3 h01'
        · rw [z3 i (by omega), c3 i (by omega), d2.A rfl, p4 i (by omega), h3 i hi]
        · refine (Cm.or (h7.row (b := gA S4 24) (fun k hk => ?_)) ?_ (c7.congr (F := Fc (gA S3 24)) (G := Fc (gA S4 24)) (fun p y1 y2 => ?_))).mono (by omega)
          · rw [z3 k (by omega), c3 k (by omega), d2.A rfl, p4 k hk]
          · have w3 : gA S4 24 (2 * e) = nI 14 := by rw [z3 _ (by omega), c3 _ (by omega), d2.A rfl, w1]
            rw [Fc_at w3 (z4.trans c1.2.1)]
            exact (dC_j e3 c1.2.2.2.1).2
          · unfold Fc
            rw [z3 _ (by omega), z3 _ (by omega)]
        · have := MOk.ao (Lc2 := 2) (Lq2 := 2) (op := 29) (Or.inr ⟨rfl, rfl, rfl⟩) (by decide) h8 hw c8 (by omega) (by omega)
          exact this
      · rw [g1]
        simp only [Option.bind_some]
        obtain ⟨S4, z1, z2, -, -⟩ := e_lead (S := S3) (e := e) (by omega)
        rw [z1]
        simp only [Option.bind_some]
        obtain ⟨f, rfl⟩ : ∃ k, f = k + 1 := ⟨f - 1, by omega⟩
        refine Or.inr ⟨S4, af, e3, ?_, f02.trans (g2.trans (z2.mono rfl rfl rfl rfl)), (z2.I rfl).trans g3, (z2.I rfl).trans g4, g5, MFl.ao (Lc2 := 2) (op := 29) (Or.inr ⟨rfl, rfl, rfl⟩) (by decide) h8 hw g6⟩
        rw [f_X7_readTest_8]
        unfold f_X7_readTest_59
        by_cases c : 400 ≤ x3 + 1
        · simp (disch := omega) only [k_let, Option.bind_some, ↓reduceIte, eq_self, true_or, or_true, n01_0, n01_1, kb_or, kb_0T, kb_0F, vn_0, vn_1, vn_k, nl_0, nl_1, nl_2, nl_3, nl_4, nl_5, nl_6, nl_7, nl_8, nl_9, nl_10, nl_11, nl_12, nl_13, nl_14, nl_15, nl_16, nl_20, nl_21, nl_22, nl_23, nl_24, nl_25, nl_26, nl_27, nl_28, nl_29, nl_30, nl_31, nl_32, nl_40, nl_41, nl_42, nl_43, nl_45, nl_47, nl_48, nl_50, nl_57, nl_59, nl_60, nl_61, nl_62, nl_63, nl_64, nl_91, nl_93, nl_94, nl_97, nl_98, nl_100, nl_110, nl_122, nl_130, nl_144, nl_160, nl_240, nl_241, nl_255, nl_256, nl_400, nl_800, nl_900, nl_999, nl_1000, nl_1001, nl_1024, nl_1103, nl_1928, nl_4321, nl_5560, nl_12345, nl_1000000, nl_1000003, nl_252645135, nl_858993459, nl_1431655765, nl_1000000000, nI_add, pk_mul, n_sub, n_neg, n_cl, leT, leF, ltT, ltF, eqT, eqF, kbT, s_II, s_In, s_IJ, s_IA, s_IL, s_IR, s_IC, s_JI, s_JJ, s_Jn, s_JA, s_JL, s_JR, s_JC, s_AI, s_AJ, s_AA, s_An, s_AL, s_AR, s_AC, s_LI, s_LJ, s_LA, s_LL, s_Ln, s_LR, s_LC]
        · simp (disch := omega) only [k_let, Option.bind_some, ↓reduceIte, eq_self, true_or, or_true, n01_0, n01_1, kb_or, kb_0T, kb_0F, vn_0, vn_1, vn_k, nl_0, nl_1, nl_2, nl_3, nl_4, nl_5, nl_6, nl_7, nl_8, nl_9, nl_10, nl_11, nl_12, nl_13, nl_14, nl_15, nl_16, nl_20, nl_21, nl_22, nl_23, nl_24, nl_25, nl_26, nl_27, nl_28, nl_29, nl_30, nl_31, nl_32, nl_40, nl_41, nl_42, nl_43, nl_45, nl_47, nl_48, nl_50, nl_57, nl_59, nl_60, nl_61, nl_62, nl_63, nl_64, nl_91, nl_93, nl_94, nl_97, nl_98, nl_100, nl_110, nl_122, nl_130, nl_144, nl_160, nl_240, nl_241, nl_255, nl_256, nl_400, nl_800, nl_900, nl_999, nl_1000, nl_1001, nl_1024, nl_1103, nl_1928, nl_4321, nl_5560, nl_12345, nl_1000000, nl_1000003, nl_252645135, nl_858993459, nl_1431655765, nl_1000000000, nI_add, pk_mul, n_sub, n_neg, n_cl, leT, leF, ltT, ltF, eqT, eqF, kbT, s_II, s_In, s_IJ, s_IA, s_IL, s_IR, s_IC, s_JI, s_JJ, s_Jn, s_JA, s_JL, s_JR, s_JC, s_AI, s_AJ, s_AA, s_An, s_AL, s_AR, s_AC, s_LI, s_LJ, s_LA, s_LL, s_Ln, s_LR, s_LC]
    · have hw : isW t n a 5 = false := Bool.eq_false_iff.mpr hw
      refine Or.inl ⟨S, a, e, q, δ, ?_, h, ⟨hla, hw⟩, fun _ => h01⟩
      rw [f_X7_readTest_8]
      unfold f_X7_readTest_59
      by_cases c : 400 ≤ x3
      · simp (disch := omega) only [k_let, Option.bind_some, ↓reduceIte, eq_self, true_or, or_true, n01_0, n01_1, kb_or, kb_0T, kb_0F, vn_0, vn_1, vn_k, nl_0, nl_1, nl_2, nl_3, nl_4, nl_5, nl_6, nl_7, nl_8, nl_9, nl_10, nl_11, nl_12, nl_13, nl_14, nl_15, nl_16, nl_20, nl_21, nl_22, nl_23, nl_24, nl_25, nl_26, nl_27, nl_28, nl_29, nl_30, nl_31, nl_32, nl_40, nl_41, nl_42, nl_43, nl_45, nl_47, nl_48, nl_50, nl_57, nl_59, nl_60, nl_61, nl_62, nl_63, nl_64, nl_91, nl_93, nl_94, nl_97, nl_98, nl_100, nl_110, nl_122, nl_130, nl_144, nl_160, nl_240, nl_241, nl_255, nl_256, nl_400, nl_800, nl_900, nl_999, nl_1000, nl_1001, nl_1024, nl_1103, nl_1928, nl_4321, nl_5560, nl_12345, nl_1000000, nl_1000003, nl_252645135, nl_858993459, nl_1431655765, nl_1000000000, nI_add, pk_mul, n_sub, n_neg, n_cl, leT, leF, ltT, ltF, eqT, eqF, kbT, s_II, s_In, s_IJ, s_IA, s_IL, s_IR, s_IC, s_JI, s_JJ, s_Jn, s_JA, s_JL, s_JR, s_JC, s_AI, s_AJ, s_AA, s_An, s_AL, s_AR, s_AC, s_LI, s_LJ, s_LA, s_LL, s_Ln, s_LR, s_LC]
      · simp (disch := omega) only [k_let, Option.bind_some, ↓reduceIte, eq_self, true_or, or_true, n01_0, n01_1, kb_or, kb_0T, kb_0F, vn_0, vn_1, vn_k, nl_0, nl_1, nl_2, nl_3, nl_4, nl_5, nl_6, nl_7, nl_8, nl_9, nl_10, nl_11, nl_12, nl_13, nl_14, nl_15, nl_16, nl_20, nl_21, nl_22, nl_23, nl_24, nl_25, nl_26, nl_27, nl_28, nl_29, nl_30, nl_31, nl_32, nl_40, nl_41, nl_42, nl_43, nl_45, nl_47, nl_48, nl_50, nl_57, nl_59, nl_60, nl_61, nl_62, nl_63, nl_64, nl_91, nl_93, nl_94, nl_97, nl_98, nl_100, nl_110, nl_122, nl_130, nl_144, nl_160, nl_240, nl_241, nl_255, nl_256, nl_400, nl_800, nl_900, nl_999, nl_1000, nl_1001, nl_1024, nl_1103, nl_1928, nl_4321, nl_5560, nl_12345, nl_1000000, nl_1000003, nl_252645135, nl_858993459, nl_1431655765, nl_1000000000, nI_add, pk_mul, n_sub, n_neg, n_cl, leT, leF, ltT, ltF, eqT, eqF, kbT, s_II, s_In, s_IJ, s_IA, s_IL, s_IR, s_IC, s_JI, s_JJ, s_Jn, s_JA, s_JL, s_JR, s_JC, s_AI, s_AJ, s_AA, s_An, s_AL, s_AR, s_AC, s_LI, s_LJ, s_LA, s_LL, s_Ln, s_LR, s_LC]
        rw [e_sees h.1.1 (by decide), hw]
        simp (disch := omega) only [k_let, Option.bind_some, ↓reduceIte, eq_self, true_or, or_true, n01_0, n01_1, kb_or, kb_0T, kb_0F, vn_0, vn_1, vn_k, nl_0, nl_1, nl_2, nl_3, nl_4, nl_5, nl_6, nl_7, nl_8, nl_9, nl_10, nl_11, nl_12, nl_13, nl_14, nl_15, nl_16, nl_20, nl_21, nl_22, nl_23, nl_24, nl_25, nl_26, nl_27, nl_28, nl_29, nl_30, nl_31, nl_32, nl_40, nl_41, nl_42, nl_43, nl_45, nl_47, nl_48, nl_50, nl_57, nl_59, nl_60, nl_61, nl_62, nl_63, nl_64, nl_91, nl_93, nl_94, nl_97, nl_98, nl_100, nl_110, nl_122, nl_130, nl_144, nl_160, nl_240, nl_241, nl_255, nl_256, nl_400, nl_800, nl_900, nl_999, nl_1000, nl_1001, nl_1024, nl_1103, nl_1928, nl_4321, nl_5560, nl_12345, nl_1000000, nl_1000003, nl_252645135, nl_858993459, nl_1431655765, nl_1000000000, nI_add, pk_mul, n_sub, n_neg, n_cl, leT, leF, ltT, ltF, eqT, eqF, kbT, s_II, s_In, s_IJ, s_IA, s_IL, s_IR, s_IC, s_JI, s_JJ, s_Jn, s_JA, s_JL, s_JR, s_JC, s_AI, s_AJ, s_AA, s_An, s_AL, s_AR, s_AC, s_LI, s_LJ, s_LA, s_LL, s_Ln, s_LR, s_LC, kB_f]
theorem c_Test {t : Nat → Nat} {n tb a e q d : Nat} {ib : Int32 → Int32 → St → Option (Int32 × St)} {S : St} (hib : IB t n tb ib d) (hS : Cs t n a e q S) (he : e ≤ a) : CRes (f_X7_readTest ib (nI d) S) t n tb 0 2 1 1 d S a e q (fun a => isW t n a 4 = false ∧ isW t n a 5 = false) := by
  have F1 : 1000 < FU := FU_ge (by decide)
  have hn := hS.1.1.1
  unfold f_X7_readTest
  rcases c_Both hib hS he with ⟨S1, a1, e1, q1, δ, r1, ⟨b1, b2, b3, b4, b5, b6, b7, b8⟩, r3, r4⟩ | ⟨S1, af, e1, r1, r2, r3, r4, r5, r6⟩
  · rw [r1]
    simp only [Option.bind_some]
    exact l_Test hib he (n - a1) FU 0 S1 a1 e1 q1 δ (Nat.le_refl _) (by omega) (by omega) ⟨b1, b2, b3, b4, b5, b6, b7, b8.mono (by decide) (by decide)⟩ r3 (r4 rfl)
  · rw [r1]
    simp only [Option.bind_some]
    obtain ⟨k, hk⟩ : ∃ k, FU = k + 1 := ⟨FU - 1, by omega⟩
    refine Or.inr ⟨S1, af, e1, ?_, r2, r3, r4, r5, r6.mono (by decide)⟩
    rw [hk, f_X7_readTest_8]
    unfold f_X7_readTest_59
    simp (disch := omega) only [k_let, Option.bind_some, ↓reduceIte, eq_self, true_or, or_true, n01_0, n01_1, kb_or, kb_0T, kb_0F, vn_0, vn_1, vn_k, nl_0, nl_1, nl_2, nl_3, nl_4, nl_5, nl_6, nl_7, nl_8, nl_9, nl_10, nl_11, nl_12, nl_13, nl_14, nl_15, nl_16, nl_20, nl_21, nl_22, nl_23, nl_24, nl_25, nl_26, nl_27, nl_28, nl_29, nl_30, nl_31, nl_32, nl_40, nl_41, nl_42, nl_43, nl_45, nl_47, nl_48, nl_50, nl_57, nl_59, nl_60, nl_61, nl_62, nl_63, nl_64, nl_91, nl_93, nl_94, nl_97, nl_98, nl_100, nl_110, nl_122, nl_130, nl_144, nl_160, nl_240, nl_241, nl_255, nl_256, nl_400, nl_800, nl_900, nl_999, nl_1000, nl_1001, nl_1024, nl_1103, nl_1928, nl_4321, nl_5560, nl_12345, nl_1000000, nl_1000003, nl_252645135, nl_858993459, nl_1431655765, nl_1000000000, nI_add, pk_mul, n_sub, n_neg, n_cl, leT, leF, ltT, ltF, eqT, eqF, kbT, s_II, s_In, s_IJ, s_IA, s_IL, s_IR, s_IC, s_JI, s_JJ, s_Jn, s_JA, s_JL, s_JR, s_JC, s_AI, s_AJ, s_AA, s_An, s_AL, s_AR, s_AC, s_LI, s_LJ, s_LA, s_LL, s_Ln, s_LR, s_LC]
theorem c_ib {t : Nat → Nat} {n tb : Nat} : ∀ (m d : Nat), d ≤ 8 → 9 ≤ m + d → IB t n tb (f_X7_ib m) d := by
  intro m
  induction m with
  | zero => intro d h1 h2; omega
  | succ m ih =>
    intro d h1 h2 S a e q hS he
    have hn := hS.1.1.1
    have e0 : ∀ c, f_X7_ib (m + 1) (nI d) c S = f_X7_readInBrackets (f_X7_ib m) (nI d) c S := fun c => rfl
    by_cases h8 : d < 8
    · have hib := ih (d + 1) (by omega) (by omega)
      refine ⟨fun hs => ?_, fun hs => ?_⟩
      · have hx := tnx_lt (t := t) (n := n) (a := a) (by rw [(isS_kd hs).1]; decide)
        obtain ⟨S1, d1, d2, d3⟩ := hS.step
        rw [e0]
        unfold f_X7_readInBrackets f_X7_readInBrackets_35 f_X7_readInBrackets_48
        simp (disch := omega) only [k_let, Option.bind_some, ↓reduceIte, eq_self, true_or, or_true, n01_0, n01_1, kb_or, kb_0T, kb_0F, vn_0, vn_1, vn_k, nl_0, nl_1, nl_2, nl_3, nl_4, nl_5, nl_6, nl_7, nl_8, nl_9, nl_10, nl_11, nl_12, nl_13, nl_14, nl_15, nl_16, nl_20, nl_21, nl_22, nl_23, nl_24, nl_25, nl_26, nl_27, nl_28, nl_29, nl_30, nl_31, nl_32, nl_40, nl_41, nl_42, nl_43, nl_45, nl_47, nl_48, nl_50, nl_57, nl_59, nl_60, nl_61, nl_62, nl_63, nl_64, nl_91, nl_93, nl_94, nl_97, nl_98, nl_100, nl_110, nl_122, nl_130, nl_144, nl_160, nl_240, nl_241, nl_255, nl_256, nl_400, nl_800, nl_900, nl_999, nl_1000, nl_1001, nl_1024, nl_1103, nl_1928, nl_4321, nl_5560, nl_12345, nl_1000000, nl_1000003, nl_252645135, nl_858993459, nl_1431655765, nl_1000000000, nI_add, pk_mul, n_sub, n_neg, n_cl, leT, leF, ltT, ltF, eqT, eqF, kbT, s_II, s_In, s_IJ, s_IA, s_IL, s_IR, s_IC, s_JI, s_JJ, s_Jn, s_JA, s_JL, s_JR, s_JC, s_AI, s_AJ, s_AA, s_An, s_AL, s_AR, s_AC, s_LI, s_LJ, s_LA, s_LL, s_Ln, s_LR, s_LC]
        rw [d1]
        simp (disch := omega) only [k_let, Option.bind_some, ↓reduceIte, eq_self, true_or, or_true, n01_0, n01_1, kb_or, kb_0T, kb_0F, vn_0, vn_1, vn_k, nl_0, nl_1, nl_2, nl_3, nl_4, nl_5, nl_6, nl_7, nl_8, nl_9, nl_10, nl_11, nl_12, nl_13, nl_14, nl_15, nl_16, nl_20, nl_21, nl_22, nl_23, nl_24, nl_25, nl_26, nl_27, nl_28, nl_29, nl_30, nl_31, nl_32, nl_40, nl_41, nl_42, nl_43, nl_45, nl_47, nl_48, nl_50, nl_57, nl_59, nl_60, nl_61, nl_62, nl_63, nl_64, nl_91, nl_93, nl_94, nl_97, nl_98, nl_100, nl_110, nl_122, nl_130, nl_144, nl_160, nl_240, nl_241, nl_255, nl_256, nl_400, nl_800, nl_900, nl_999, nl_1000, nl_1001, nl_1024, nl_1103, nl_1928, nl_4321, nl_5560, nl_12345, nl_1000000, nl_1000003, nl_252645135, nl_858993459, nl_1431655765, nl_1000000000, nI_add, pk_mul, n_sub, n_neg, n_cl, leT, leF, ltT, ltF, eqT, eqF, kbT, s_II, s_In, s_IJ, s_IA, s_IL, s_IR, s_IC, s_JI, s_JJ, s_Jn, s_JA, s_JL, s_JR, s_JC, s_AI, s_AJ, s_AA, s_An, s_AL, s_AR, s_AC, s_LI, s_LJ, s_LA, s_LL, s_Ln, s_LR, s_LC]
        rcases c_Sum hib d3 (by omega) with ⟨S3, a3, e3, q3, δ3, g1, ⟨c1, c2, c3, c4, c5, c6, c7, c8⟩, g3, g4⟩ | ⟨S3, af, e3, g1, g2, g3, g4, g5, g6⟩
        · rw [g1]
          simp (disch := omega) only [k_let, Option.bind_some, ↓reduceIte, eq_self, true_or, or_true, n01_0, n01_1, kb_or, kb_0T, kb_0F, vn_0, vn_1, vn_k, nl_0, nl_1, nl_2, nl_3, nl_4, nl_5, nl_6, nl_7, nl_8, nl_9, nl_10, nl_11, nl_12, nl_13, nl_14, nl_15, nl_16, nl_20, nl_21, nl_22, nl_23, nl_24, nl_25, nl_26, nl_27, nl_28, nl_29, nl_30, nl_31, nl_32, nl_40, nl_41, nl_42, nl_43, nl_45, nl_47, nl_48, nl_50, nl_57, nl_59, nl_60, nl_61, nl_62, nl_63, nl_64, nl_91, nl_93, nl_94, nl_97, nl_98, nl_100, nl_110, nl_122, nl_130, nl_144, nl_160, nl_240, nl_241, nl_255, nl_256, nl_400, nl_800, nl_900, nl_999, nl_1000, nl_1001, nl_1024, nl_1103, nl_1928, nl_4321, nl_5560, nl_12345, nl_1000000, nl_1000003, nl_252645135, nl_858993459, nl_1431655765, nl_1000000000, nI_add, pk_mul, n_sub, n_neg, n_cl, leT, leF, ltT, ltF, eqT, eqF, kbT, s_II, s_In, s_IJ, s_IA, s_IL, s_IR, s_IC, s_JI, s_JJ, s_Jn, s_JA, s_JL, s_JR, s_JC, s_AI, s_AJ, s_AA, s_An, s_AL, s_AR, s_AC, s_LI, s_LJ, s_LA, s_LL, s_Ln, s_LR, s_LC]
          rw [e_seesSign c1.1 (by decide)]
          by_cases s1 : isS t n a3 93 = true
          · have hx3 := tnx_lt (t := t) (n := n) (a := a3) (by rw [(isS_kd s1).1]; decide)
            obtain ⟨S4, z1, z2, z3⟩ := c1.step
            rw [s1]
            simp (disch := omega) only [k_let, Option.bind_some, ↓reduceIte, eq_self, true_or, or_true, n01_0, n01_1, kb_or, kb_0T, kb_0F, vn_0, vn_1, vn_k, nl_0, nl_1, nl_2, nl_3, nl_4, nl_5, nl_6, nl_7, nl_8, nl_9, nl_10, nl_11, nl_12, nl_13, nl_14, nl_15, nl_16, nl_20, nl_21, nl_22, nl_23, nl_24, nl_25, nl_26, nl_27, nl_28, nl_29, nl_30, nl_31, nl_32, nl_40, nl_41, nl_42, nl_43, nl_45, nl_47, nl_48, nl_50, nl_57, nl_59, nl_60, nl_61, nl_62, nl_63, nl_64, nl_91, nl_93, nl_94, nl_97, nl_98, nl_100, nl_110, nl_122, nl_130, nl_144, nl_160, nl_240, nl_241, nl_255, nl_256, nl_400, nl_800, nl_900, nl_999, nl_1000, nl_1001, nl_1024, nl_1103, nl_1928, nl_4321, nl_5560, nl_12345, nl_1000000, nl_1000003, nl_252645135, nl_858993459, nl_1431655765, nl_1000000000, nI_add, pk_mul, n_sub, n_neg, n_cl, leT, leF, ltT, ltF, eqT, eqF, kbT, s_II, s_In, s_IJ, s_IA, s_IL, s_IR, s_IC, s_JI, s_JJ, s_Jn, s_JA, s_JL, s_JR, s_JC, s_AI, s_AJ, s_AA, s_An, s_AL, s_AR, s_AC, s_LI, s_LJ, s_LA, s_LL, s_Ln, s_LR, s_LC, kB_t]
            rw [z1]
            simp only [Option.bind_some]
            refine Or.inl ⟨S4, _, e3, q3, δ3, rfl, ⟨z3, ((d2.mono rfl rfl rfl rfl).trans c2).trans (z2.mono rfl rfl rfl rfl), fun i hi => by rw [z2.A rfl, c3 i hi, d2.A rfl], by omega, c5, by omega, ?_, MOk.sq hs h8 c8 s1⟩, trivial, fun z => absurd z (by decide)⟩
            rw [z2.A rfl]
            exact c7
          · have s1 := Bool.eq_false_iff.mpr s1
            rw [s1]
            simp (disch := omega) only [k_let, Option.bind_some, ↓reduceIte, eq_self, true_or, or_true, n01_0, n01_1, kb_or, kb_0T, kb_0F, vn_0, vn_1, vn_k, nl_0, nl_1, nl_2, nl_3, nl_4, nl_5, nl_6, nl_7, nl_8, nl_9, nl_10, nl_11, nl_12, nl_13, nl_14, nl_15, nl_16, nl_20, nl_21, nl_22, nl_23, nl_24, nl_25, nl_26, nl_27, nl_28, nl_29, nl_30, nl_31, nl_32, nl_40, nl_41, nl_42, nl_43, nl_45, nl_47, nl_48, nl_50, nl_57, nl_59, nl_60, nl_61, nl_62, nl_63, nl_64, nl_91, nl_93, nl_94, nl_97, nl_98, nl_100, nl_110, nl_122, nl_130, nl_144, nl_160, nl_240, nl_241, nl_255, nl_256, nl_400, nl_800, nl_900, nl_999, nl_1000, nl_1001, nl_1024, nl_1103, nl_1928, nl_4321, nl_5560, nl_12345, nl_1000000, nl_1000003, nl_252645135, nl_858993459, nl_1431655765, nl_1000000000, nI_add, pk_mul, n_sub, n_neg, n_cl, leT, leF, ltT, ltF, eqT, eqF, kbT, s_II, s_In, s_IJ, s_IA, s_IL, s_IR, s_IC, s_JI, s_JJ, s_Jn, s_JA, s_JL, s_JR, s_JC, s_AI, s_AJ, s_AA, s_An, s_AL, s_AR, s_AC, s_LI, s_LJ, s_LA, s_LL, s_Ln, s_LR, s_LC, kB_f]
            exact Or.inr ⟨S3, a3, e3, rfl, (d2.mono rfl rfl rfl rfl).trans c2, c1.1.2.2.1, c1.2.1, c1.2.2.2.1, MFl.sq2 hs h8 c8 g3 s1⟩
        · rw [g1]
          simp (disch := omega) only [k_let, Option.bind_some, ↓reduceIte, eq_self, true_or, or_true, n01_0, n01_1, kb_or, kb_0T, kb_0F, vn_0, vn_1, vn_k, nl_0, nl_1, nl_2, nl_3, nl_4, nl_5, nl_6, nl_7, nl_8, nl_9, nl_10, nl_11, nl_12, nl_13, nl_14, nl_15, nl_16, nl_20, nl_21, nl_22, nl_23, nl_24, nl_25, nl_26, nl_27, nl_28, nl_29, nl_30, nl_31, nl_32, nl_40, nl_41, nl_42, nl_43, nl_45, nl_47, nl_48, nl_50, nl_57, nl_59, nl_60, nl_61, nl_62, nl_63, nl_64, nl_91, nl_93, nl_94, nl_97, nl_98, nl_100, nl_110, nl_122, nl_130, nl_144, nl_160, nl_240, nl_241, nl_255, nl_256, nl_400, nl_800, nl_900, nl_999, nl_1000, nl_1001, nl_1024, nl_1103, nl_1928, nl_4321, nl_5560, nl_12345, nl_1000000, nl_1000003, nl_252645135, nl_858993459, nl_1431655765, nl_1000000000, nI_add, pk_mul, n_sub, n_neg, n_cl, leT, leF, ltT, ltF, eqT, eqF, kbT, s_II, s_In, s_IJ, s_IA, s_IL, s_IR, s_IC, s_JI, s_JJ, s_Jn, s_JA, s_JL, s_JR, s_JC, s_AI, s_AJ, s_AA, s_An, s_AL, s_AR, s_AC, s_LI, s_LJ, s_LA, s_LL, s_Ln, s_LR, s_LC]
          exact Or.inr ⟨S3, af, e3, rfl, (d2.mono rfl rfl rfl rfl).trans g2, g3, g4, g5, MFl.sq1 hs h8 g6⟩
      · have hx := tnx_lt (t := t) (n := n) (a := a) (by rw [(isS_kd hs).1]; decide)
        obtain ⟨S1, d1, d2, d3⟩ := hS.step
        rw [e0]
        unfold f_X7_readInBrackets f_X7_readInBrackets_35 f_X7_readInBrackets_48
        simp (disch := omega) only [k_let, Option.bind_some, ↓reduceIte, eq_self, true_or, or_true, n01_0, n01_1, kb_or, kb_0T, kb_0F, vn_0, vn_1, vn_k, nl_0, nl_1, nl_2, nl_3, nl_4, nl_5, nl_6, nl_7, nl_8, nl_9, nl_10, nl_11, nl_12, nl_13, nl_14, nl_15, nl_16, nl_20, nl_21, nl_22, nl_23, nl_24, nl_25, nl_26, nl_27, nl_28, nl_29, nl_30, nl_31, nl_32, nl_40, nl_41, nl_42, nl_43, nl_45, nl_47, nl_48, nl_50, nl_57, nl_59, nl_60, nl_61, nl_62, nl_63, nl_64, nl_91, nl_93, nl_94, nl_97, nl_98, nl_100, nl_110, nl_122, nl_130, nl_144, nl_160, nl_240, nl_241, nl_255, nl_256, nl_400, nl_800, nl_900, nl_999, nl_1000, nl_1001, nl_1024, nl_1103, nl_1928, nl_4321, nl_5560, nl_12345, nl_1000000, nl_1000003, nl_252645135, nl_858993459, nl_1431655765, nl_1000000000, nI_add, pk_mul, n_sub, n_neg, n_cl, leT, leF, ltT, ltF, eqT, eqF, kbT, s_II, s_In, s_IJ, s_IA, s_IL, s_IR, s_IC, s_JI, s_JJ, s_Jn, s_JA, s_JL, s_JR, s_JC, s_AI, s_AJ, s_AA, s_An, s_AL, s_AR, s_AC, s_LI, s_LJ, s_LA, s_LL, s_Ln, s_LR, s_LC]
        rw [d1]
        simp (disch := omega) only [k_let, Option.bind_some, ↓reduceIte, eq_self, true_or, or_true, n01_0, n01_1, kb_or, kb_0T, kb_0F, vn_0, vn_1, vn_k, nl_0, nl_1, nl_2, nl_3, nl_4, nl_5, nl_6, nl_7, nl_8, nl_9, nl_10, nl_11, nl_12, nl_13, nl_14, nl_15, nl_16, nl_20, nl_21, nl_22, nl_23, nl_24, nl_25, nl_26, nl_27, nl_28, nl_29, nl_30, nl_31, nl_32, nl_40, nl_41, nl_42, nl_43, nl_45, nl_47, nl_48, nl_50, nl_57, nl_59, nl_60, nl_61, nl_62, nl_63, nl_64, nl_91, nl_93, nl_94, nl_97, nl_98, nl_100, nl_110, nl_122, nl_130, nl_144, nl_160, nl_240, nl_241, nl_255, nl_256, nl_400, nl_800, nl_900, nl_999, nl_1000, nl_1001, nl_1024, nl_1103, nl_1928, nl_4321, nl_5560, nl_12345, nl_1000000, nl_1000003, nl_252645135, nl_858993459, nl_1431655765, nl_1000000000, nI_add, pk_mul, n_sub, n_neg, n_cl, leT, leF, ltT, ltF, eqT, eqF, kbT, s_II, s_In, s_IJ, s_IA, s_IL, s_IR, s_IC, s_JI, s_JJ, s_Jn, s_JA, s_JL, s_JR, s_JC, s_AI, s_AJ, s_AA, s_An, s_AL, s_AR, s_AC, s_LI, s_LJ, s_LA, s_LL, s_Ln, s_LR, s_LC]
        rcases c_Test hib d3 (by omega) with ⟨S3, a3, e3, q3, δ3, g1, ⟨c1, c2, c3, c4, c5, c6, c7, c8⟩, g3, g4⟩ | ⟨S3, af, e3, g1, g2, g3, g4, g5, g6⟩
        · rw [g1]
          simp (disch := omega) only [k_let, Option.bind_some, ↓reduceIte, eq_self, true_or, or_true, n01_0, n01_1, kb_or, kb_0T, kb_0F, vn_0, vn_1, vn_k, nl_0, nl_1, nl_2, nl_3, nl_4, nl_5, nl_6, nl_7, nl_8, nl_9, nl_10, nl_11, nl_12, nl_13, nl_14, nl_15, nl_16, nl_20, nl_21, nl_22, nl_23, nl_24, nl_25, nl_26, nl_27, nl_28, nl_29, nl_30, nl_31, nl_32, nl_40, nl_41, nl_42, nl_43, nl_45, nl_47, nl_48, nl_50, nl_57, nl_59, nl_60, nl_61, nl_62, nl_63, nl_64, nl_91, nl_93, nl_94, nl_97, nl_98, nl_100, nl_110, nl_122, nl_130, nl_144, nl_160, nl_240, nl_241, nl_255, nl_256, nl_400, nl_800, nl_900, nl_999, nl_1000, nl_1001, nl_1024, nl_1103, nl_1928, nl_4321, nl_5560, nl_12345, nl_1000000, nl_1000003, nl_252645135, nl_858993459, nl_1431655765, nl_1000000000, nI_add, pk_mul, n_sub, n_neg, n_cl, leT, leF, ltT, ltF, eqT, eqF, kbT, s_II, s_In, s_IJ, s_IA, s_IL, s_IR, s_IC, s_JI, s_JJ, s_Jn, s_JA, s_JL, s_JR, s_JC, s_AI, s_AJ, s_AA, s_An, s_AL, s_AR, s_AC, s_LI, s_LJ, s_LA, s_LL, s_Ln, s_LR, s_LC]
          rw [e_seesSign c1.1 (by decide)]
          by_cases s1 : isS t n a3 41 = true
          · have hx3 := tnx_lt (t := t) (n := n) (a := a3) (by rw [(isS_kd s1).1]; decide)
            obtain ⟨S4, z1, z2, z3⟩ := c1.step
            rw [s1]
            simp (disch := omega) only [k_let, Option.bind_some, ↓reduceIte, eq_self, true_or, or_true, n01_0, n01_1, kb_or, kb_0T, kb_0F, vn_0, vn_1, vn_k, nl_0, nl_1, nl_2, nl_3, nl_4, nl_5, nl_6, nl_7, nl_8, nl_9, nl_10, nl_11, nl_12, nl_13, nl_14, nl_15, nl_16, nl_20, nl_21, nl_22, nl_23, nl_24, nl_25, nl_26, nl_27, nl_28, nl_29, nl_30, nl_31, nl_32, nl_40, nl_41, nl_42, nl_43, nl_45, nl_47, nl_48, nl_50, nl_57, nl_59, nl_60, nl_61, nl_62, nl_63, nl_64, nl_91, nl_93, nl_94, nl_97, nl_98, nl_100, nl_110, nl_122, nl_130, nl_144, nl_160, nl_240, nl_241, nl_255, nl_256, nl_400, nl_800, nl_900, nl_999, nl_1000, nl_1001, nl_1024, nl_1103, nl_1928, nl_4321, nl_5560, nl_12345, nl_1000000, nl_1000003, nl_252645135, nl_858993459, nl_1431655765, nl_1000000000, nI_add, pk_mul, n_sub, n_neg, n_cl, leT, leF, ltT, ltF, eqT, eqF, kbT, s_II, s_In, s_IJ, s_IA, s_IL, s_IR, s_IC, s_JI, s_JJ, s_Jn, s_JA, s_JL, s_JR, s_JC, s_AI, s_AJ, s_AA, s_An, s_AL, s_AR, s_AC, s_LI, s_LJ, s_LA, s_LL, s_Ln, s_LR, s_LC, kB_t]
            rw [z1]
            simp only [Option.bind_some]
            refine Or.inl ⟨S4, _, e3, q3, δ3, rfl, ⟨z3, ((d2.mono rfl rfl rfl rfl).trans c2).trans (z2.mono rfl rfl rfl rfl), fun i hi => by rw [z2.A rfl, c3 i hi, d2.A rfl], by omega, c5, by omega, ?_, MOk.rd hs h8 c8 s1⟩, trivial, fun _ => g4 rfl⟩
            rw [z2.A rfl]
            exact c7
          · have s1 := Bool.eq_false_iff.mpr s1
            rw [s1]
            simp (disch := omega) only [k_let, Option.bind_some, ↓reduceIte, eq_self, true_or, or_true, n01_0, n01_1, kb_or, kb_0T, kb_0F, vn_0, vn_1, vn_k, nl_0, nl_1, nl_2, nl_3, nl_4, nl_5, nl_6, nl_7, nl_8, nl_9, nl_10, nl_11, nl_12, nl_13, nl_14, nl_15, nl_16, nl_20, nl_21, nl_22, nl_23, nl_24, nl_25, nl_26, nl_27, nl_28, nl_29, nl_30, nl_31, nl_32, nl_40, nl_41, nl_42, nl_43, nl_45, nl_47, nl_48, nl_50, nl_57, nl_59, nl_60, nl_61, nl_62, nl_63, nl_64, nl_91, nl_93, nl_94, nl_97, nl_98, nl_100, nl_110, nl_122, nl_130, nl_144, nl_160, nl_240, nl_241, nl_255, nl_256, nl_400, nl_800, nl_900, nl_999, nl_1000, nl_1001, nl_1024, nl_1103, nl_1928, nl_4321, nl_5560, nl_12345, nl_1000000, nl_1000003, nl_252645135, nl_858993459, nl_1431655765, nl_1000000000, nI_add, pk_mul, n_sub, n_neg, n_cl, leT, leF, ltT, ltF, eqT, eqF, kbT, s_II, s_In, s_IJ, s_IA, s_IL, s_IR, s_IC, s_JI, s_JJ, s_Jn, s_JA, s_JL, s_JR, s_JC, s_AI, s_AJ, s_AA, s_An, s_AL, s_AR, s_AC, s_LI, s_LJ, s_LA, s_LL, s_Ln, s_LR, s_LC, kB_f]
            exact Or.inr ⟨S3, a3, e3, rfl, (d2.mono rfl rfl rfl rfl).trans c2, c1.1.2.2.1, c1.2.1, c1.2.2.2.1, MFl.rd2 hs h8 c8 g3.1 g3.2 s1⟩
        · rw [g1]
          simp (disch := omega) only [k_let, Option.bind_some, ↓reduceIte, eq_self, true_or, or_true, n01_0, n01_1, kb_or, kb_0T, kb_0F, vn_0, vn_1, vn_k, nl_0, nl_1, nl_2, nl_3, nl_4, nl_5, nl_6, nl_7, nl_8, nl_9, nl_10, nl_11, nl_12, nl_13, nl_14, nl_15, nl_16, nl_20, nl_21, nl_22, nl_23, nl_24, nl_25, nl_26, nl_27, nl_28, nl_29, nl_30, nl_31, nl_32, nl_40, nl_41, nl_42, nl_43, nl_45, nl_47, nl_48, nl_50, nl_57, nl_59, nl_60, nl_61, nl_62, nl_63, nl_64, nl_91, nl_93, nl_94, nl_97, nl_98, nl_100, nl_110, nl_122, nl_130, nl_144, nl_160, nl_240, nl_241, nl_255, nl_256, nl_400, nl_800, nl_900, nl_999, nl_1000, nl_1001, nl_1024, nl_1103, nl_1928, nl_4321, nl_5560, nl_12345, nl_1000000, nl_1000003, nl_252645135, nl_858993459, nl_1431655765, nl_1000000000, nI_add, pk_mul, n_sub, n_neg, n_cl, leT, leF, ltT, ltF, eqT, eqF, kbT, s_II, s_In, s_IJ, s_IA, s_IL, s_IR, s_IC, s_JI, s_JJ, s_Jn, s_JA, s_JL, s_JR, s_JC, s_AI, s_AJ, s_AA, s_An, s_AL, s_AR, s_AC, s_LI, s_LJ, s_LA, s_LL, s_Ln, s_LR, s_LC]
          exact Or.inr ⟨S3, af, e3, rfl, (d2.mono rfl rfl rfl rfl).trans g2, g3, g4, g5, MFl.rd1 hs h8 g6⟩
    · refine ⟨fun hs => ?_, fun hs => ?_⟩
      · rw [e0]
        unfold f_X7_readInBrackets
        simp (disch := omega) only [k_let, Option.bind_some, ↓reduceIte, eq_self, true_or, or_true, n01_0, n01_1, kb_or, kb_0T, kb_0F, vn_0, vn_1, vn_k, nl_0, nl_1, nl_2, nl_3, nl_4, nl_5, nl_6, nl_7, nl_8, nl_9, nl_10, nl_11, nl_12, nl_13, nl_14, nl_15, nl_16, nl_20, nl_21, nl_22, nl_23, nl_24, nl_25, nl_26, nl_27, nl_28, nl_29, nl_30, nl_31, nl_32, nl_40, nl_41, nl_42, nl_43, nl_45, nl_47, nl_48, nl_50, nl_57, nl_59, nl_60, nl_61, nl_62, nl_63, nl_64, nl_91, nl_93, nl_94, nl_97, nl_98, nl_100, nl_110, nl_122, nl_130, nl_144, nl_160, nl_240, nl_241, nl_255, nl_256, nl_400, nl_800, nl_900, nl_999, nl_1000, nl_1001, nl_1024, nl_1103, nl_1928, nl_4321, nl_5560, nl_12345, nl_1000000, nl_1000003, nl_252645135, nl_858993459, nl_1431655765, nl_1000000000, nI_add, pk_mul, n_sub, n_neg, n_cl, leT, leF, ltT, ltF, eqT, eqF, kbT, s_II, s_In, s_IJ, s_IA, s_IL, s_IR, s_IC, s_JI, s_JJ, s_Jn, s_JA, s_JL, s_JR, s_JC, s_AI, s_AJ, s_AA, s_An, s_AL, s_AR, s_AC, s_LI, s_LJ, s_LA, s_LL, s_Ln, s_LR, s_LC]
        exact Or.inr ⟨S, a, e, rfl, Fr.refl S, hS.1.2.2.1, hS.2.1, hS.2.2.2.1, MFl.sq0 hs (by omega) (by omega)⟩
      · rw [e0]
        unfold f_X7_readInBrackets
        simp (disch := omega) only [k_let, Option.bind_some, ↓reduceIte, eq_self, true_or, or_true, n01_0, n01_1, kb_or, kb_0T, kb_0F, vn_0, vn_1, vn_k, nl_0, nl_1, nl_2, nl_3, nl_4, nl_5, nl_6, nl_7, nl_8, nl_9, nl_10, nl_11, nl_12, nl_13, nl_14, nl_15, nl_16, nl_20, nl_21, nl_22, nl_23, nl_24, nl_25, nl_26, nl_27, nl_28, nl_29, nl_30, nl_31, nl_32, nl_40, nl_41, nl_42, nl_43, nl_45, nl_47, nl_48, nl_50, nl_57, nl_59, nl_60, nl_61, nl_62, nl_63, nl_64, nl_91, nl_93, nl_94, nl_97, nl_98, nl_100, nl_110, nl_122, nl_130, nl_144, nl_160, nl_240, nl_241, nl_255, nl_256, nl_400, nl_800, nl_900, nl_999, nl_1000, nl_1001, nl_1024, nl_1103, nl_1928, nl_4321, nl_5560, nl_12345, nl_1000000, nl_1000003, nl_252645135, nl_858993459, nl_1431655765, nl_1000000000, nI_add, pk_mul, n_sub, n_neg, n_cl, leT, leF, ltT, ltF, eqT, eqF, kbT, s_II, s_In, s_IJ, s_IA, s_IL, s_IR, s_IC, s_JI, s_JJ, s_Jn, s_JA, s_JL, s_JR, s_JC, s_AI, s_AJ, s_AA, s_An, s_AL, s_AR, s_AC, s_LI, s_LJ, s_LA, s_LL, s_Ln, s_LR, s_LC]
        exact Or.inr ⟨S, a, e, rfl, Fr.refl S, hS.1.2.2.1, hS.2.1, hS.2.2.2.1, MFl.rd0 hs (by omega) (by omega)⟩
