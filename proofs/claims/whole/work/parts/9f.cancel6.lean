/-! part 9f: cancel: all takings, the reference; cancel -/
theorem l_m118 {r : Nat → Int32} {V : Nat → Vd} {S : St} {t n A i : Nat} {p : Nat → Nat} (hQ : Qm r V S) (ht : t < 6) (hn : n ≤ 8) (hn2 : 2 ≤ n) (h49 : gI S 49 = nI n) (h73 : ∀ j, j < n → gA S 73 j = nI (p j)) (hp : ∀ j, j < n → p j < 8) (hi : i < n) (hA : A ≤ 144) {h : Nat → Nat} (hh : ∀ d, d < nD r → h d ≤ 9) (k104 : Int32 → Int32 → Int32 → St → Option (Int32 × St)) : ∀ (m f d : Nat) (U : St), d + m = nD r → m < f → Md r S U (fun e => if e < d then nhF (rgQ r V t n p i) h A e else h e) →
    ∃ W, f_X12_cancel_118 k104 f (nI t) (nI A) (nI i) (nI (lfF (rgQ r V t n p i) h A d)) (nI d) U = k104 (nI t) (nI A) (nI (i + 1)) W ∧ Md r S W (nhF (rgQ r V t n p i) h A) := by
  have h16 := hQ.1.1.n16
  have w := hQ.1.1
  intro m
  induction m with
  | zero =>
    intro f d U hd hf hM
    obtain ⟨f, rfl⟩ : ∃ g, f = g + 1 := ⟨f - 1, by omega⟩
    have : d = nD r := by omega
    subst this
    have pn : f_X12_debts U = some (nI (nD r), U) := by rw [e_debts, hM.2.2 1 (fun e _ => by omega), w.r1]
    refine ⟨U, ?_, hM.1, fun e he => (hM.2.1 e he).trans (congrArg nI (if_pos he)), hM.2.2⟩
    rw [f_X12_cancel_118]
    simp (disch := omega) only [k_let, Option.bind_some, ↓reduceIte, eq_self, true_or, or_true, n01_0, n01_1, kb_or, kb_0T, kb_0F, vn_0, vn_1, vn_k, nl_0, nl_1, nl_2, nl_3, nl_4, nl_5, nl_6, nl_7, nl_8, nl_9, nl_10, nl_11, nl_12, nl_13, nl_14, nl_15, nl_16, nl_20, nl_21, nl_22, nl_23, nl_24, nl_25, nl_26, nl_27, nl_28, nl_29, nl_30, nl_31, nl_32, nl_40, nl_41, nl_42, nl_43, nl_45, nl_47, nl_48, nl_50, nl_57, nl_59, nl_60, nl_61, nl_62, nl_63, nl_64, nl_91, nl_93, nl_94, nl_97, nl_98, nl_100, nl_110, nl_122, nl_130, nl_144, nl_160, nl_240, nl_241, nl_255, nl_256, nl_400, nl_800, nl_900, nl_999, nl_1000, nl_1001, nl_1024, nl_1103, nl_1928, nl_4321, nl_5560, nl_12345, nl_1000000, nl_1000003, nl_252645135, nl_858993459, nl_1431655765, nl_1000000000, nI_add, pk_mul, n_sub, n_neg, n_cl, leT, leF, ltT, ltF, eqT, eqF, kbT, s_II, s_In, s_IJ, s_IA, s_IL, s_IR, s_IC, s_JI, s_JJ, s_Jn, s_JA, s_JL, s_JR, s_JC, s_AI, s_AJ, s_AA, s_An, s_AL, s_AR, s_AC, s_LI, s_LJ, s_LA, s_LL, s_Ln, s_LR, s_LC, ↓b_of pn]
  | succ m ih =>
    intro f d U hd hf hM
    obtain ⟨f, rfl⟩ : ∃ g, f = g + 1 := ⟨f - 1, by omega⟩
    have hdn : d < nD r := by omega
    obtain ⟨pn, p0, p1, p3, pc⟩ := hM.p hQ ht hdn
    rw [if_neg (Nat.lt_irrefl d)] at p3
    have g53 : gA U 53 (14 + 5 * d + 3) = nI (h d) := (hM.2.1 d hdn).trans (congrArg nI (if_neg (Nat.lt_irrefl d)))
    have k49 : gI U 49 = nI n := (hM.1.I (k := 49) rfl).trans h49
    have k73 : gA U 73 = gA S 73 := hM.1.A (k := 73) rfl
    have a1 : gA U 73 i = nI (p i) := by rw [k73]; exact h73 i hi
    have a2 : gA U 73 (nxt n i) = nI (p (nxt n i)) := by rw [k73]; exact h73 _ (nxt_lt hi)
    have n8 := nxt_lt hi
    have b1 := hp i hi
    have b2 := hp _ n8
    have o8 := (w.ow hdn).2
    have c8 := (w.cr hdn).2
    have em : nI (i + 1) - nI (i + 1) / nI n * nI n = nI (nxt n i) := by rw [n_mod (by omega) (by omega) (by omega), nxt_mod hi]
    have h9 := hh d hdn
    have qd : rgQ r V t n p i d = decide (ctB r V t d = true ∧ dOw r d = p i ∧ dCr r d = p (nxt n i)) := rfl
    generalize rgQ r V t n p i = Q at *
    have ll := lfF_le Q h A d
    have el : lfF Q h A (d + 1) = if Q d = true then lfF Q h A d - min (h d) (lfF Q h A d) else lfF Q h A d := rfl
    have en : nhF Q h A d = if Q d = true then h d - min (h d) (lfF Q h A d) else h d := rfl
    have st : ∀ v, nhF Q h A d = v → Md r S (sA U 53 (14 + 5 * d + 3) (nI v)) (fun e => if e < d + 1 then nhF Q h A e else h e) := fun v hv => by
      have := hM.set (g := fun e => if e < d + 1 then nhF Q h A e else h e) hdn (fun e he q => by
        by_cases q2 : e < d
        · rw [if_pos q2, if_pos (by omega)]
        · rw [if_neg q2, if_neg (by omega)])
      rw [← hv]
      simpa only [Nat.lt_succ_self, if_true] using this
    generalize nxt n i = j at *
    by_cases c : ctB r V t d = true ∧ dOw r d = p i ∧ dCr r d = p j
    · rw [decide_eq_true c] at qd
      rw [if_pos qd] at el en
      obtain ⟨c1, c2, c3⟩ := c
      rw [c1, kB_t] at pc
      rw [c2] at p0
      rw [c3] at p1
      by_cases c4 : lfF Q h A d ≤ h d
      · have mn : min (h d) (lfF Q h A d) = lfF Q h A d := by omega
        rw [mn] at el en
        obtain ⟨W, w1, w2⟩ := ih f (d + 1) _ (by omega) (by omega) (st _ en)
        refine ⟨W, ?_, w2⟩
        rw [← w1, el, f_X12_cancel_118]
        generalize p i = x at *
        generalize p j = y at *
        simp (disch := omega) only [k_let, Option.bind_some, ↓reduceIte, eq_self, true_or, or_true, n01_0, n01_1, kb_or, kb_0T, kb_0F, vn_0, vn_1, vn_k, nl_0, nl_1, nl_2, nl_3, nl_4, nl_5, nl_6, nl_7, nl_8, nl_9, nl_10, nl_11, nl_12, nl_13, nl_14, nl_15, nl_16, nl_20, nl_21, nl_22, nl_23, nl_24, nl_25, nl_26, nl_27, nl_28, nl_29, nl_30, nl_31, nl_32, nl_40, nl_41, nl_42, nl_43, nl_45, nl_47, nl_48, nl_50, nl_57, nl_59, nl_60, nl_61, nl_62, nl_63, nl_64, nl_91, nl_93, nl_94, nl_97, nl_98, nl_100, nl_110, nl_122, nl_130, nl_144, nl_160, nl_240, nl_241, nl_255, nl_256, nl_400, nl_800, nl_900, nl_999, nl_1000, nl_1001, nl_1024, nl_1103, nl_1928, nl_4321, nl_5560, nl_12345, nl_1000000, nl_1000003, nl_252645135, nl_858993459, nl_1431655765, nl_1000000000, leT, leF, ltT, ltF, eqT, eqF, kbT, nI_add, pk_mul, n_sub, n_neg, n_cl, k49, em, not_false_eq_true, ↓b_of pn, ↓b_of pc, ↓b_of p0, ↓b_of p1, ↓b_of p3, a1, a2, f_X12_cancel_181, f_X12_cancel_216, g53, Nat.sub_zero]
      · have mn : min (h d) (lfF Q h A d) = h d := by omega
        rw [mn] at el en
        obtain ⟨W, w1, w2⟩ := ih f (d + 1) _ (by omega) (by omega) (st _ en)
        refine ⟨W, ?_, w2⟩
        rw [← w1, el, f_X12_cancel_118]
        generalize p i = x at *
        generalize p j = y at *
        simp (disch := omega) only [k_let, Option.bind_some, ↓reduceIte, eq_self, true_or, or_true, n01_0, n01_1, kb_or, kb_0T, kb_0F, vn_0, vn_1, vn_k, nl_0, nl_1, nl_2, nl_3, nl_4, nl_5, nl_6, nl_7, nl_8, nl_9, nl_10, nl_11, nl_12, nl_13, nl_14, nl_15, nl_16, nl_20, nl_21, nl_22, nl_23, nl_24, nl_25, nl_26, nl_27, nl_28, nl_29, nl_30, nl_31, nl_32, nl_40, nl_41, nl_42, nl_43, nl_45, nl_47, nl_48, nl_50, nl_57, nl_59, nl_60, nl_61, nl_62, nl_63, nl_64, nl_91, nl_93, nl_94, nl_97, nl_98, nl_100, nl_110, nl_122, nl_130, nl_144, nl_160, nl_240, nl_241, nl_255, nl_256, nl_400, nl_800, nl_900, nl_999, nl_1000, nl_1001, nl_1024, nl_1103, nl_1928, nl_4321, nl_5560, nl_12345, nl_1000000, nl_1000003, nl_252645135, nl_858993459, nl_1431655765, nl_1000000000, leT, leF, ltT, ltF, eqT, eqF, kbT, nI_add, pk_mul, n_sub, n_neg, n_cl, k49, em, not_false_eq_true, ↓b_of pn, ↓b_of pc, ↓b_of p0, ↓b_of p1, ↓b_of p3, a1, a2, f_X12_cancel_181, f_X12_cancel_216, g53, Nat.sub_zero]
    · rw [decide_eq_false c] at qd
      rw [if_neg (by rw [qd]; decide)] at el en
      obtain ⟨W, w1, w2⟩ := ih f (d + 1) _ (by omega) (by omega) (st _ en)
      refine ⟨W, ?_, w2⟩
      rw [← w1, el, f_X12_cancel_118]
      by_cases c1 : ctB r V t d = true
      · rw [c1, kB_t] at pc
        by_cases c2 : dOw r d = p i
        · have c3 : dCr r d ≠ p j := fun z => c ⟨c1, c2, z⟩
          rw [c2] at p0
          generalize p i = x at *
          generalize p j = y at *
          simp (disch := omega) only [k_let, Option.bind_some, ↓reduceIte, eq_self, true_or, or_true, n01_0, n01_1, kb_or, kb_0T, kb_0F, vn_0, vn_1, vn_k, nl_0, nl_1, nl_2, nl_3, nl_4, nl_5, nl_6, nl_7, nl_8, nl_9, nl_10, nl_11, nl_12, nl_13, nl_14, nl_15, nl_16, nl_20, nl_21, nl_22, nl_23, nl_24, nl_25, nl_26, nl_27, nl_28, nl_29, nl_30, nl_31, nl_32, nl_40, nl_41, nl_42, nl_43, nl_45, nl_47, nl_48, nl_50, nl_57, nl_59, nl_60, nl_61, nl_62, nl_63, nl_64, nl_91, nl_93, nl_94, nl_97, nl_98, nl_100, nl_110, nl_122, nl_130, nl_144, nl_160, nl_240, nl_241, nl_255, nl_256, nl_400, nl_800, nl_900, nl_999, nl_1000, nl_1001, nl_1024, nl_1103, nl_1928, nl_4321, nl_5560, nl_12345, nl_1000000, nl_1000003, nl_252645135, nl_858993459, nl_1431655765, nl_1000000000, leT, leF, ltT, ltF, eqT, eqF, kbT, nI_add, pk_mul, n_sub, n_neg, n_cl, k49, em, not_false_eq_true, ↓b_of pn, ↓b_of pc, ↓b_of p0, ↓b_of p1, ↓b_of p3, a1, a2, f_X12_cancel_180, f_X12_cancel_181, f_X12_cancel_216, g53, Nat.sub_zero]
        · simp (disch := omega) only [k_let, Option.bind_some, ↓reduceIte, eq_self, true_or, or_true, n01_0, n01_1, kb_or, kb_0T, kb_0F, vn_0, vn_1, vn_k, nl_0, nl_1, nl_2, nl_3, nl_4, nl_5, nl_6, nl_7, nl_8, nl_9, nl_10, nl_11, nl_12, nl_13, nl_14, nl_15, nl_16, nl_20, nl_21, nl_22, nl_23, nl_24, nl_25, nl_26, nl_27, nl_28, nl_29, nl_30, nl_31, nl_32, nl_40, nl_41, nl_42, nl_43, nl_45, nl_47, nl_48, nl_50, nl_57, nl_59, nl_60, nl_61, nl_62, nl_63, nl_64, nl_91, nl_93, nl_94, nl_97, nl_98, nl_100, nl_110, nl_122, nl_130, nl_144, nl_160, nl_240, nl_241, nl_255, nl_256, nl_400, nl_800, nl_900, nl_999, nl_1000, nl_1001, nl_1024, nl_1103, nl_1928, nl_4321, nl_5560, nl_12345, nl_1000000, nl_1000003, nl_252645135, nl_858993459, nl_1431655765, nl_1000000000, leT, leF, ltT, ltF, eqT, eqF, kbT, nI_add, pk_mul, n_sub, n_neg, n_cl, k49, em, not_false_eq_true, ↓b_of pn, ↓b_of pc, ↓b_of p0, ↓b_of p1, ↓b_of p3, a1, a2, f_X12_cancel_180, f_X12_cancel_181, f_X12_cancel_216, g53, Nat.sub_zero]
      · rw [Bool.not_eq_true] at c1
        rw [c1, kB_f] at pc
        simp (disch := omega) only [k_let, Option.bind_some, ↓reduceIte, eq_self, true_or, or_true, n01_0, n01_1, kb_or, kb_0T, kb_0F, vn_0, vn_1, vn_k, nl_0, nl_1, nl_2, nl_3, nl_4, nl_5, nl_6, nl_7, nl_8, nl_9, nl_10, nl_11, nl_12, nl_13, nl_14, nl_15, nl_16, nl_20, nl_21, nl_22, nl_23, nl_24, nl_25, nl_26, nl_27, nl_28, nl_29, nl_30, nl_31, nl_32, nl_40, nl_41, nl_42, nl_43, nl_45, nl_47, nl_48, nl_50, nl_57, nl_59, nl_60, nl_61, nl_62, nl_63, nl_64, nl_91, nl_93, nl_94, nl_97, nl_98, nl_100, nl_110, nl_122, nl_130, nl_144, nl_160, nl_240, nl_241, nl_255, nl_256, nl_400, nl_800, nl_900, nl_999, nl_1000, nl_1001, nl_1024, nl_1103, nl_1928, nl_4321, nl_5560, nl_12345, nl_1000000, nl_1000003, nl_252645135, nl_858993459, nl_1431655765, nl_1000000000, leT, leF, ltT, ltF, eqT, eqF, kbT, nI_add, pk_mul, n_sub, n_neg, n_cl, k49, em, not_false_eq_true, ↓b_of pn, ↓b_of pc, ↓b_of p0, ↓b_of p1, ↓b_of p3, a1, a2, f_X12_cancel_180, f_X12_cancel_181, f_X12_cancel_216, g53, Nat.sub_zero]

theorem l_m104 {r : Nat → Int32} {V : Nat → Vd} {S : St} {t n A : Nat} {p : Nat → Nat} (hQ : Qm r V S) (ht : t < 6) (hn : n ≤ 8) (hn2 : 2 ≤ n) (h49 : gI S 49 = nI n) (h73 : ∀ j, j < n → gA S 73 j = nI (p j)) (hp : ∀ j, j < n → p j < 8) (hA : A ≤ 144) : ∀ (m f i : Nat) (U : St), i + m = n → m < f → Md r S U (hI r V t n p A i) →
    ∃ W, f_X12_cancel_104 f (nI t) (nI A) (nI i) U = (f_X12_sweep W).bind (fun q => (f_X12_tell (nI A) q).bind fun q => some (q.1, q.2)) ∧ Md r S W (hI r V t n p A n) := by
  intro m
  induction m with
  | zero =>
    intro f i U hi hf hM
    obtain ⟨f, rfl⟩ : ∃ g, f = g + 1 := ⟨f - 1, by omega⟩
    have : i = n := by omega
    subst this
    have k49 : gI U 49 = nI i := (hM.1.I (k := 49) rfl).trans h49
    refine ⟨U, ?_, hM⟩
    rw [f_X12_cancel_104]
    simp (disch := omega) only [nl_0, nl_1, nl_2, nl_3, nl_4, nl_5, nl_6, nl_7, nl_8, nl_9, nl_10, nl_11, nl_12, nl_13, nl_14, nl_15, nl_16, nl_20, nl_21, nl_22, nl_23, nl_24, nl_25, nl_26, nl_27, nl_28, nl_29, nl_30, nl_31, nl_32, nl_40, nl_41, nl_42, nl_43, nl_45, nl_47, nl_48, nl_50, nl_57, nl_59, nl_60, nl_61, nl_62, nl_63, nl_64, nl_91, nl_93, nl_94, nl_97, nl_98, nl_100, nl_110, nl_122, nl_130, nl_144, nl_160, nl_240, nl_241, nl_255, nl_256, nl_400, nl_800, nl_900, nl_999, nl_1000, nl_1001, nl_1024, nl_1103, nl_1928, nl_4321, nl_5560, nl_12345, nl_1000000, nl_1000003, nl_252645135, nl_858993459, nl_1431655765, nl_1000000000, leT, leF, ltT, ltF, eqT, eqF, kbT, ↓reduceIte, k49]
  | succ m ih =>
    intro f i U hi hf hM
    obtain ⟨f, rfl⟩ : ∃ g, f = g + 1 := ⟨f - 1, by omega⟩
    have k49 : gI U 49 = nI n := (hM.1.I (k := 49) rfl).trans h49
    have hd9 := hI_9 hQ.1.1 V t n p A i
    have M0 : Md r S U (fun e => if e < 0 then nhF (rgQ r V t n p i) (hI r V t n p A i) A e else hI r V t n p A i e) := ⟨hM.1, fun e he => (hM.2.1 e he).trans (congrArg nI (if_neg (Nat.not_lt_zero e)).symm), hM.2.2⟩
    obtain ⟨W, w1, w2⟩ := l_m118 hQ ht hn hn2 h49 h73 hp (show i < n by omega) hA hd9 (f_X12_cancel_104 f) (nD r) FU 0 U (by omega) (FU_ge (by have := hQ.1.1.n16; omega)) M0
    obtain ⟨Z, z1, z2⟩ := ih f (i + 1) W (by omega) (by omega) w2
    refine ⟨Z, ?_, z2⟩
    rw [← z1, ← w1, f_X12_cancel_104]
    simp (disch := omega) only [nl_0, nl_1, nl_2, nl_3, nl_4, nl_5, nl_6, nl_7, nl_8, nl_9, nl_10, nl_11, nl_12, nl_13, nl_14, nl_15, nl_16, nl_20, nl_21, nl_22, nl_23, nl_24, nl_25, nl_26, nl_27, nl_28, nl_29, nl_30, nl_31, nl_32, nl_40, nl_41, nl_42, nl_43, nl_45, nl_47, nl_48, nl_50, nl_57, nl_59, nl_60, nl_61, nl_62, nl_63, nl_64, nl_91, nl_93, nl_94, nl_97, nl_98, nl_100, nl_110, nl_122, nl_130, nl_144, nl_160, nl_240, nl_241, nl_255, nl_256, nl_400, nl_800, nl_900, nl_999, nl_1000, nl_1001, nl_1024, nl_1103, nl_1928, nl_4321, nl_5560, nl_12345, nl_1000000, nl_1000003, nl_252645135, nl_858993459, nl_1431655765, nl_1000000000, leT, leF, ltT, ltF, eqT, eqF, kbT, ↓reduceIte, k49]
    rfl
/-- as ask, and the reference wherever its row is r -/
theorem ask2 {r : Nat → Int32} {S : St} (hv : Iv r S) : ∃ V, Ask r V S ∧ ∀ T, Ir r T → ∃ U, f_X12_askAll T = some U ∧ Fr [47, 48] [1, 2] [66, 67, 68] [64, 65] T U ∧ Qm r V U := by
  obtain ⟨V, b, vc, vm⟩ := ver hv.c
  refine ⟨V, fun T f => ?_, fun T hT => ?_⟩
  · have hT := hv.fs f
    refine ⟨?_, ?_⟩
    · obtain ⟨U, u1, u2, u3⟩ := vc T hT.c f.2.2.2.2.2 (f.2.2.2.2.1 0)
      have g : Fs S U := f.trans (u2.mono rfl rfl rfl rfl)
      exact ⟨U, u1, u2, g, (hv.fs g).c, u3, b⟩
    · obtain ⟨U, u1, u2, u3⟩ := vm T hT.r
      have g : Fs S U := f.trans (u2.mono rfl rfl rfl rfl)
      exact ⟨U, u1, u2, g, (hv.fs g).r, u3, b⟩
  · obtain ⟨U, u1, u2, u3⟩ := vm T hT
    exact ⟨U, u1, u2, hT.fr u2 rfl, u3, b⟩
theorem Fs.tl {X C : St} (f : Fs X C) (v : Int32) (k : Nat) : Fs (tlT v k X) (tlT v k C) := by
  obtain ⟨f1, f2, f3, f4, f5, f6⟩ := f
  refine ⟨fun j hj => ?_, f2, fun j hj => ?_, f4, f5, f6⟩
  · show gI (sI C 34 v) j = gI (sI X 34 v) j
    by_cases q : j = 34
    · subst q; rw [s_II, s_II]
    · rw [s_In q, s_In q]; exact f1 j hj
  · unfold tlT
    by_cases q : j = 52
    · subst q
      rw [s_AA, s_AA]
      have := f3 52 hj
      funext i
      rw [u_a, u_a]
      show (if i = k then gA C 52 k + _ else gA C 52 i) = if i = k then gA X 52 k + _ else gA X 52 i
      rw [this]
    · rw [s_An q, s_An q]; exact f3 j hj
theorem p_cancel (x : Int32) : Pr (f_X11_cancel x) (f_X12_cancel x) := by
  intro S h
  have hv := Iv.of h
  generalize hr : gA S 53 = r at hv
  have t6 := hv.wf.t6
  obtain ⟨V, hA, hM⟩ := ask2 hv
  by_cases c : 0 ≤ x.toInt ∧ x.toInt < rN r 0
  · obtain ⟨t, rfl, ht, -⟩ := rng_n c
    have b0 := e_hasTune hv.c (nI t)
    rw [decide_eq_true c, kB_t] at b0
    obtain ⟨b, A, a1, a2, a3, a4, a5⟩ := e_cfind hA (Fr.refl S) (t := t) (by omega)
    have irr := adN_irr (V := V) (t := t) hv.wf
    rcases a5 with ⟨rfl, n, p, p1, p2, p3⟩ | ⟨rfl, p1⟩
    · rw [kB_t] at a1
      have n8 := p1.1.1.n8
      have g2 := p1.1.1.1
      have hp : ∀ j, j < n → p j < 8 := p1.1.1.2.1
      have d1 := l_drop6 a3 (show t < 6 by omega) a4 n8 g2 p2 p3 hp n FU 0 (by omega) (FU_ge (by omega))
      obtain ⟨A1, q1, q2, q3⟩ := l_drop49 (A := mnF (btN r V t) n p n) a3 (show t < 6 by omega) a4 n8 g2 p2 p3 hp (mnF_le _ _ _ _) n FU 0 A (by omega) (FU_ge (by omega)) (Fr.refl A) (fun e he => (a3.1.C he).2.2.2.1)
      have mle := mnF_le (btN r V t) n p n
      have hh : ∀ d, d < nD r → hI r V t n p (mnF (btN r V t) n p n) n d < 10 := fun d hd => by
        have := hI_9 hv.wf V t n p (mnF (btN r V t) n p n) n d hd
        omega
      obtain ⟨T1, t1, t2⟩ := c_sweep (U := A1) (h := hI r V t n p (mnF (btN r V t) n p n) n) hv ((a2.mono rfl rfl rfl rfl).trans (q2.mono rfl rfl rfl rfl)) q3 hh
      have pd : f_X8_drop A = some (nI (mnF (btN r V t) n p n), T1) := by
        have e : f_X8_drop A = f_X8_drop_47 (nI (mnF (btN r V t) n p n)) A := d1
        have e2 : f_X8_drop_47 (nI (mnF (btN r V t) n p n)) A = f_X8_drop_49 FU (nI (mnF (btN r V t) n p n)) (nI 0) A := rfl
        rw [e, e2, q1, t1]
        rfl
      have e53 : gA (sI (sI T1 32 (nI 0)) 33 (nI 0)) 53 = r := (t2.1.A (k := 53) rfl).trans hr
      have b1 := e_m_isTune (S := sI (sI T1 32 (nI 0)) 33 (nI 0)) (irT hv.wf e53) (nI t)
      rw [decide_eq_true c, kB_t] at b1
      obtain ⟨B, m1, m2, m3⟩ := hM _ (irT hv.wf e53)
      obtain ⟨C, n1, n2, n3⟩ := e_mfind m3 (t := t) (by omega)
      rcases e_same irr n3 with ⟨z1, z2⟩ | ⟨n', p', z1, z2, z3⟩
      · exact absurd p1.1 (z2 n p)
      · obtain ⟨e1, e2, e3⟩ := Be.uniq irr p1 z1
        subst e1
        have hQ := m3.fr n2 rfl rfl rfl rfl
        have z3' : ∀ j, j < n → gA C 73 j = nI (p j) := fun j hj => by rw [z3 j hj, e3 j hj]
        have d2 := l_m49 hQ (show t < 6 by omega) n8 g2 z2 z3' hp n FU 0 (by omega) (FU_ge (by omega))
        obtain ⟨D, y1, y2⟩ := l_m104 (A := mnF (btN r V t) n p n) hQ (show t < 6 by omega) n8 g2 z2 z3' hp mle n FU 0 C (by omega) (FU_ge (by omega)) ⟨Fr.refl C, fun d hd => by rw [hQ.1.m]; exact (hv.wf.ha hd).1, fun i _ => by rw [hQ.1.m]⟩
        obtain ⟨T2, u1, u2, u3⟩ := m_sweep (V := D) (h := hI r V t n p (mnF (btN r V t) n p n) n) hv.wf y2.2.1 y2.2.2 hh
        have fD : Fr scI scJ (53 :: scA) scL (sI T1 32 (nI 0)) D := (((Fr.refl _).sI (k := 33) rfl _).trans (m2.mono rfl rfl rfl rfl)).trans ((n2.mono rfl rfl rfl rfl : Fr scI scJ (53 :: scA) scL B C).trans (y2.1.mono rfl rfl rfl rfl))
        refine ⟨nI (mnF (btN r V t) n p n), sI T1 32 (nI 0), sI T2 34 (nI 0), ?_, ?_, pr_sw hv hh t2 fD u2 u3⟩
        · unfold f_X11_cancel
          simp (disch := omega) only [k_let, Option.bind_some, ↓reduceIte, eq_self, true_or, or_true, n01_0, n01_1, kb_or, kb_0T, kb_0F, vn_0, vn_1, vn_k, nl_0, nl_1, nl_2, nl_3, nl_4, nl_5, nl_6, nl_7, nl_8, nl_9, nl_10, nl_11, nl_12, nl_13, nl_14, nl_15, nl_16, nl_20, nl_21, nl_22, nl_23, nl_24, nl_25, nl_26, nl_27, nl_28, nl_29, nl_30, nl_31, nl_32, nl_40, nl_41, nl_42, nl_43, nl_45, nl_47, nl_48, nl_50, nl_57, nl_59, nl_60, nl_61, nl_62, nl_63, nl_64, nl_91, nl_93, nl_94, nl_97, nl_98, nl_100, nl_110, nl_122, nl_130, nl_144, nl_160, nl_240, nl_241, nl_255, nl_256, nl_400, nl_800, nl_900, nl_999, nl_1000, nl_1001, nl_1024, nl_1103, nl_1928, nl_4321, nl_5560, nl_12345, nl_1000000, nl_1000003, nl_252645135, nl_858993459, nl_1431655765, nl_1000000000, nI_add, pk_mul, n_sub, n_neg, n_cl, leT, leF, ltT, ltF, eqT, eqF, kbT, s_II, s_In, s_IJ, s_IA, s_IL, s_IR, s_IC, s_JI, s_JJ, s_Jn, s_JA, s_JL, s_JR, s_JC, s_AI, s_AJ, s_AA, s_An, s_AL, s_AR, s_AC, s_LI, s_LJ, s_LA, s_LL, s_Ln, s_LR, s_LC, zleT, zleF, zltT, zltF, zeqT, zeqF, nzleT, nzleF, nzltT, nzltF, nzeqT, nzeqF, znleT, znleF, znltT, znltF, zneqT, zneqF, z_add, z_sub, z_mul, z_neg, z_an, z_na, z_sn, z_ns, z_mn, z_nm, Nat.add_sub_cancel, decide_true, decide_false, and_self, e_done, e_ref1, e_ref2, e_ref3, e_ref5, e_ref6, e_tel1, e_tel2, e_tel3, e_tel5, e_tel6, e_telN, rfT_m, ↓b_of b0, ↓b_of a1, ↓b_of pd]
        · have e0 : mnM (btN r V t) n p 0 = 1000000 := rfl
          rw [e0] at d2
          have y1' : f_X12_cancel_104 FU (nI t) (nI (mnF (btN r V t) n p n)) (nI 0) C = some (nI (mnF (btN r V t) n p n), sI T2 34 (nI 0)) := by
            rw [y1, u1, Option.bind_some, e_telN (by omega)]
            rfl
          rw [y1'] at d2
          unfold f_X12_cancel
          simp (disch := omega) only [k_let, Option.bind_some, ↓reduceIte, eq_self, true_or, or_true, n01_0, n01_1, kb_or, kb_0T, kb_0F, vn_0, vn_1, vn_k, nl_0, nl_1, nl_2, nl_3, nl_4, nl_5, nl_6, nl_7, nl_8, nl_9, nl_10, nl_11, nl_12, nl_13, nl_14, nl_15, nl_16, nl_20, nl_21, nl_22, nl_23, nl_24, nl_25, nl_26, nl_27, nl_28, nl_29, nl_30, nl_31, nl_32, nl_40, nl_41, nl_42, nl_43, nl_45, nl_47, nl_48, nl_50, nl_57, nl_59, nl_60, nl_61, nl_62, nl_63, nl_64, nl_91, nl_93, nl_94, nl_97, nl_98, nl_100, nl_110, nl_122, nl_130, nl_144, nl_160, nl_240, nl_241, nl_255, nl_256, nl_400, nl_800, nl_900, nl_999, nl_1000, nl_1001, nl_1024, nl_1103, nl_1928, nl_4321, nl_5560, nl_12345, nl_1000000, nl_1000003, nl_252645135, nl_858993459, nl_1431655765, nl_1000000000, nI_add, pk_mul, n_sub, n_neg, n_cl, leT, leF, ltT, ltF, eqT, eqF, kbT, s_II, s_In, s_IJ, s_IA, s_IL, s_IR, s_IC, s_JI, s_JJ, s_Jn, s_JA, s_JL, s_JR, s_JC, s_AI, s_AJ, s_AA, s_An, s_AL, s_AR, s_AC, s_LI, s_LJ, s_LA, s_LL, s_Ln, s_LR, s_LC, zleT, zleF, zltT, zltF, zeqT, zeqF, nzleT, nzleF, nzltT, nzltF, nzeqT, nzeqF, znleT, znleF, znltT, znltF, zneqT, zneqF, z_add, z_sub, z_mul, z_neg, z_an, z_na, z_sn, z_ns, z_mn, z_nm, Nat.add_sub_cancel, decide_true, decide_false, and_self, e_done, e_ref1, e_ref2, e_ref3, e_ref5, e_ref6, e_tel1, e_tel2, e_tel3, e_tel5, e_tel6, e_telN, rfT_m, ↓b_of b1, ↓b_of m1, ↓b_of n1, z2, d2]
    · rw [kB_f] at a1
      have hA' := hv.fs a2
      have e53 : gA (sI (rfT (iZ (-((3 : Nat) : Int))) 2 A) 33 (nI 0)) 53 = r := hA'.2
      have b1 := e_m_isTune (S := sI (rfT (iZ (-((3 : Nat) : Int))) 2 A) 33 (nI 0)) (irT hv.wf e53) (nI t)
      rw [decide_eq_true c, kB_t] at b1
      obtain ⟨B, m1, m2, m3⟩ := hM _ (irT hv.wf e53)
      obtain ⟨C, n1, n2, n3⟩ := e_mfind m3 (t := t) (by omega)
      rcases e_same irr n3 with ⟨z1, z2⟩ | ⟨n', p', z1, z2, z3⟩
      · have fC : Fs (sI (rfT (iZ (-((3 : Nat) : Int))) 2 A) 33 (nI 0)) C := (m2.mono rfl rfl rfl rfl).trans (n2.mono rfl rfl rfl rfl)
        refine ⟨iZ (-((3 : Nat) : Int)), rfT (iZ (-((3 : Nat) : Int))) 2 A, tlT (iZ (-((3 : Nat) : Int))) 3 C, ?_, ?_, (hA'.1.refuse _ 2 3 (by decide)).fs (fC.tl _ _)⟩
        · unfold f_X11_cancel
          simp (disch := omega) only [k_let, Option.bind_some, ↓reduceIte, eq_self, true_or, or_true, n01_0, n01_1, kb_or, kb_0T, kb_0F, vn_0, vn_1, vn_k, nl_0, nl_1, nl_2, nl_3, nl_4, nl_5, nl_6, nl_7, nl_8, nl_9, nl_10, nl_11, nl_12, nl_13, nl_14, nl_15, nl_16, nl_20, nl_21, nl_22, nl_23, nl_24, nl_25, nl_26, nl_27, nl_28, nl_29, nl_30, nl_31, nl_32, nl_40, nl_41, nl_42, nl_43, nl_45, nl_47, nl_48, nl_50, nl_57, nl_59, nl_60, nl_61, nl_62, nl_63, nl_64, nl_91, nl_93, nl_94, nl_97, nl_98, nl_100, nl_110, nl_122, nl_130, nl_144, nl_160, nl_240, nl_241, nl_255, nl_256, nl_400, nl_800, nl_900, nl_999, nl_1000, nl_1001, nl_1024, nl_1103, nl_1928, nl_4321, nl_5560, nl_12345, nl_1000000, nl_1000003, nl_252645135, nl_858993459, nl_1431655765, nl_1000000000, nI_add, pk_mul, n_sub, n_neg, n_cl, leT, leF, ltT, ltF, eqT, eqF, kbT, s_II, s_In, s_IJ, s_IA, s_IL, s_IR, s_IC, s_JI, s_JJ, s_Jn, s_JA, s_JL, s_JR, s_JC, s_AI, s_AJ, s_AA, s_An, s_AL, s_AR, s_AC, s_LI, s_LJ, s_LA, s_LL, s_Ln, s_LR, s_LC, zleT, zleF, zltT, zltF, zeqT, zeqF, nzleT, nzleF, nzltT, nzltF, nzeqT, nzeqF, znleT, znleF, znltT, znltF, zneqT, zneqF, z_add, z_sub, z_mul, z_neg, z_an, z_na, z_sn, z_ns, z_mn, z_nm, Nat.add_sub_cancel, decide_true, decide_false, and_self, e_done, e_ref1, e_ref2, e_ref3, e_ref5, e_ref6, e_tel1, e_tel2, e_tel3, e_tel5, e_tel6, e_telN, rfT_m, ↓b_of b0, ↓b_of a1]
        · unfold f_X12_cancel
          simp (disch := omega) only [k_let, Option.bind_some, ↓reduceIte, eq_self, true_or, or_true, n01_0, n01_1, kb_or, kb_0T, kb_0F, vn_0, vn_1, vn_k, nl_0, nl_1, nl_2, nl_3, nl_4, nl_5, nl_6, nl_7, nl_8, nl_9, nl_10, nl_11, nl_12, nl_13, nl_14, nl_15, nl_16, nl_20, nl_21, nl_22, nl_23, nl_24, nl_25, nl_26, nl_27, nl_28, nl_29, nl_30, nl_31, nl_32, nl_40, nl_41, nl_42, nl_43, nl_45, nl_47, nl_48, nl_50, nl_57, nl_59, nl_60, nl_61, nl_62, nl_63, nl_64, nl_91, nl_93, nl_94, nl_97, nl_98, nl_100, nl_110, nl_122, nl_130, nl_144, nl_160, nl_240, nl_241, nl_255, nl_256, nl_400, nl_800, nl_900, nl_999, nl_1000, nl_1001, nl_1024, nl_1103, nl_1928, nl_4321, nl_5560, nl_12345, nl_1000000, nl_1000003, nl_252645135, nl_858993459, nl_1431655765, nl_1000000000, nI_add, pk_mul, n_sub, n_neg, n_cl, leT, leF, ltT, ltF, eqT, eqF, kbT, s_II, s_In, s_IJ, s_IA, s_IL, s_IR, s_IC, s_JI, s_JJ, s_Jn, s_JA, s_JL, s_JR, s_JC, s_AI, s_AJ, s_AA, s_An, s_AL, s_AR, s_AC, s_LI, s_LJ, s_LA, s_LL, s_Ln, s_LR, s_LC, zleT, zleF, zltT, zltF, zeqT, zeqF, nzleT, nzleF, nzltT, nzltF, nzeqT, nzeqF, znleT, znleF, znltT, znltF, zneqT, zneqF, z_add, z_sub, z_mul, z_neg, z_an, z_na, z_sn, z_ns, z_mn, z_nm, Nat.add_sub_cancel, decide_true, decide_false, and_self, e_done, e_ref1, e_ref2, e_ref3, e_ref5, e_ref6, e_tel1, e_tel2, e_tel3, e_tel5, e_tel6, e_telN, rfT_m, ↓b_of b1, ↓b_of m1, ↓b_of n1, z1]
      · exact absurd z1.1 (p1 n' p')
  · have b0 := e_hasTune hv.c x
    rw [decide_eq_false c, kB_f] at b0
    have b1 := e_m_isTune (S := sI (rfT (iZ (-((2 : Nat) : Int))) 1 S) 33 (nI 0)) (irT hv.wf hr) x
    rw [decide_eq_false c, kB_f] at b1
    refine ⟨iZ (-((2 : Nat) : Int)), rfT (iZ (-((2 : Nat) : Int))) 1 S, tlT (iZ (-((2 : Nat) : Int))) 2 (sI (rfT (iZ (-((2 : Nat) : Int))) 1 S) 33 (nI 0)), ?_, ?_, h.refuse _ 1 2 (by decide)⟩
    · unfold f_X11_cancel
      simp (disch := omega) only [k_let, Option.bind_some, ↓reduceIte, eq_self, true_or, or_true, n01_0, n01_1, kb_or, kb_0T, kb_0F, vn_0, vn_1, vn_k, nl_0, nl_1, nl_2, nl_3, nl_4, nl_5, nl_6, nl_7, nl_8, nl_9, nl_10, nl_11, nl_12, nl_13, nl_14, nl_15, nl_16, nl_20, nl_21, nl_22, nl_23, nl_24, nl_25, nl_26, nl_27, nl_28, nl_29, nl_30, nl_31, nl_32, nl_40, nl_41, nl_42, nl_43, nl_45, nl_47, nl_48, nl_50, nl_57, nl_59, nl_60, nl_61, nl_62, nl_63, nl_64, nl_91, nl_93, nl_94, nl_97, nl_98, nl_100, nl_110, nl_122, nl_130, nl_144, nl_160, nl_240, nl_241, nl_255, nl_256, nl_400, nl_800, nl_900, nl_999, nl_1000, nl_1001, nl_1024, nl_1103, nl_1928, nl_4321, nl_5560, nl_12345, nl_1000000, nl_1000003, nl_252645135, nl_858993459, nl_1431655765, nl_1000000000, nI_add, pk_mul, n_sub, n_neg, n_cl, leT, leF, ltT, ltF, eqT, eqF, kbT, s_II, s_In, s_IJ, s_IA, s_IL, s_IR, s_IC, s_JI, s_JJ, s_Jn, s_JA, s_JL, s_JR, s_JC, s_AI, s_AJ, s_AA, s_An, s_AL, s_AR, s_AC, s_LI, s_LJ, s_LA, s_LL, s_Ln, s_LR, s_LC, zleT, zleF, zltT, zltF, zeqT, zeqF, nzleT, nzleF, nzltT, nzltF, nzeqT, nzeqF, znleT, znleF, znltT, znltF, zneqT, zneqF, z_add, z_sub, z_mul, z_neg, z_an, z_na, z_sn, z_ns, z_mn, z_nm, Nat.add_sub_cancel, decide_true, decide_false, and_self, e_done, e_ref1, e_ref2, e_ref3, e_ref5, e_ref6, e_tel1, e_tel2, e_tel3, e_tel5, e_tel6, e_telN, rfT_m, ↓b_of b0]
    · unfold f_X12_cancel
      simp (disch := omega) only [k_let, Option.bind_some, ↓reduceIte, eq_self, true_or, or_true, n01_0, n01_1, kb_or, kb_0T, kb_0F, vn_0, vn_1, vn_k, nl_0, nl_1, nl_2, nl_3, nl_4, nl_5, nl_6, nl_7, nl_8, nl_9, nl_10, nl_11, nl_12, nl_13, nl_14, nl_15, nl_16, nl_20, nl_21, nl_22, nl_23, nl_24, nl_25, nl_26, nl_27, nl_28, nl_29, nl_30, nl_31, nl_32, nl_40, nl_41, nl_42, nl_43, nl_45, nl_47, nl_48, nl_50, nl_57, nl_59, nl_60, nl_61, nl_62, nl_63, nl_64, nl_91, nl_93, nl_94, nl_97, nl_98, nl_100, nl_110, nl_122, nl_130, nl_144, nl_160, nl_240, nl_241, nl_255, nl_256, nl_400, nl_800, nl_900, nl_999, nl_1000, nl_1001, nl_1024, nl_1103, nl_1928, nl_4321, nl_5560, nl_12345, nl_1000000, nl_1000003, nl_252645135, nl_858993459, nl_1431655765, nl_1000000000, nI_add, pk_mul, n_sub, n_neg, n_cl, leT, leF, ltT, ltF, eqT, eqF, kbT, s_II, s_In, s_IJ, s_IA, s_IL, s_IR, s_IC, s_JI, s_JJ, s_Jn, s_JA, s_JL, s_JR, s_JC, s_AI, s_AJ, s_AA, s_An, s_AL, s_AR, s_AC, s_LI, s_LJ, s_LA, s_LL, s_Ln, s_LR, s_LC, zleT, zleF, zltT, zltF, zeqT, zeqF, nzleT, nzleF, nzltT, nzltF, nzeqT, nzeqF, znleT, znleF, znltT, znltF, zneqT, zneqF, z_add, z_sub, z_mul, z_neg, z_an, z_na, z_sn, z_ns, z_mn, z_nm, Nat.add_sub_cancel, decide_true, decide_false, and_self, e_done, e_ref1, e_ref2, e_ref3, e_ref5, e_ref6, e_tel1, e_tel2, e_tel3, e_tel5, e_tel6, e_telN, rfT_m, ↓b_of b1]
