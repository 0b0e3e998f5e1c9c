/-! part 9e: cancel: all takings, the class -/
def rgQ (r : Nat → Int32) (V : Nat → Vd) (t n : Nat) (p : Nat → Nat) (i d : Nat) : Bool := decide (ctB r V t d = true ∧ dOw r d = p i ∧ dCr r d = p (nxt n i))
def hI (r : Nat → Int32) (V : Nat → Vd) (t n : Nat) (p : Nat → Nat) (A : Nat) : Nat → Nat → Nat
  | 0 => dHa r
  | i + 1 => nhF (rgQ r V t n p i) (hI r V t n p A i) A
theorem nhF_le (Q : Nat → Bool) (h : Nat → Nat) (A d : Nat) : nhF Q h A d ≤ h d := by
  unfold nhF
  by_cases c : Q d = true
  · rw [if_pos c]; omega
  · rw [if_neg c]; exact Nat.le_refl _
theorem hI_le (r : Nat → Int32) (V : Nat → Vd) (t n : Nat) (p : Nat → Nat) (A : Nat) : ∀ i d, hI r V t n p A i d ≤ dHa r d := by
  intro i
  induction i with
  | zero => intro d; exact Nat.le_refl _
  | succ i ih => intro d; exact Nat.le_trans (nhF_le _ _ _ _) (ih d)
theorem hI_9 {r : Nat → Int32} (w : Wf r) (V : Nat → Vd) (t n : Nat) (p : Nat → Nat) (A i : Nat) : ∀ d, d < nD r → hI r V t n p A i d ≤ 9 := fun d hd => by
  have := hI_le r V t n p A i d
  have := (w.ha hd).2.1
  omega
theorem l_drop49 {r : Nat → Int32} {V : Nat → Vd} {S : St} {t n A : Nat} {p : Nat → Nat} (hQ : Qc r V S) (ht : t < 6) (h19 : gI S 19 = nI t) (hn : n ≤ 8) (hn2 : 2 ≤ n) (h18 : gI S 18 = nI n) (h31 : ∀ j, j < n → gA S 31 j = nI (p j)) (hp : ∀ j, j < n → p j < 8) (hA : A ≤ 144) : ∀ (m f i : Nat) (U : St), i + m = n → m < f → Fr [] [] [6] [] S U → (∀ e, e < nD r → gA U 6 e = nI (hI r V t n p A i e)) →
    ∃ W, f_X8_drop_49 f (nI A) (nI i) U = (f_X1_dropPlayed W).bind (fun q => some (nI A, q)) ∧ Fr [] [] [6] [] S W ∧ ∀ e, e < nD r → gA W 6 e = nI (hI r V t n p A n e) := by
  intro m
  induction m with
  | zero =>
    intro f i U hi hf hF hR
    obtain ⟨f, rfl⟩ : ∃ g, f = g + 1 := ⟨f - 1, by omega⟩
    have : i = n := by omega
    subst this
    have k18 : gI U 18 = nI i := (hF.I (k := 18) rfl).trans h18
    refine ⟨U, ?_, hF, hR⟩
    rw [f_X8_drop_49]
    simp (disch := omega) only [k_let, Option.bind_some, ↓reduceIte, eq_self, true_or, or_true, n01_0, n01_1, kb_or, kb_0T, kb_0F, vn_0, vn_1, vn_k, nl_0, nl_1, nl_2, nl_3, nl_4, nl_5, nl_6, nl_7, nl_8, nl_9, nl_10, nl_11, nl_12, nl_13, nl_14, nl_15, nl_16, nl_20, nl_21, nl_22, nl_23, nl_24, nl_25, nl_26, nl_27, nl_28, nl_29, nl_30, nl_31, nl_32, nl_40, nl_41, nl_42, nl_43, nl_45, nl_47, nl_48, nl_50, nl_57, nl_59, nl_60, nl_61, nl_62, nl_63, nl_64, nl_91, nl_93, nl_94, nl_97, nl_98, nl_100, nl_110, nl_122, nl_130, nl_144, nl_160, nl_240, nl_241, nl_255, nl_256, nl_400, nl_800, nl_900, nl_999, nl_1000, nl_1001, nl_1024, nl_1103, nl_1928, nl_4321, nl_5560, nl_12345, nl_1000000, nl_1000003, nl_252645135, nl_858993459, nl_1431655765, nl_1000000000, nI_add, pk_mul, n_sub, n_neg, n_cl, leT, leF, ltT, ltF, eqT, eqF, kbT, s_II, s_In, s_IJ, s_IA, s_IL, s_IR, s_IC, s_JI, s_JJ, s_Jn, s_JA, s_JL, s_JR, s_JC, s_AI, s_AJ, s_AA, s_An, s_AL, s_AR, s_AC, s_LI, s_LJ, s_LA, s_LL, s_Ln, s_LR, s_LC, k18, f_X8_drop_86]
  | succ m ih =>
    intro f i U hi hf hF hR
    obtain ⟨f, rfl⟩ : ∃ g, f = g + 1 := ⟨f - 1, by omega⟩
    have hin : i < n := by omega
    have k18 : gI U 18 = nI n := (hF.I (k := 18) rfl).trans h18
    have k31 : ∀ j, j < n → gA U 31 j = nI (p j) := fun j hj => by rw [hF.A (k := 31) rfl]; exact h31 j hj
    obtain ⟨a1, a2⟩ := e_at hn hn2 k18 k31 hin
    obtain ⟨W, w1, w2, w3⟩ := l_take6 (A := A) (h := hI r V t n p A i) hQ ht h19 (hp i hin) (hp _ (nxt_lt hin)) hA (hI_9 hQ.1.1 V t n p A i) (nD r) FU 0 U (by omega) (FU_ge (by have := hQ.1.1.n16; omega)) hF (fun e he => by rw [if_neg (Nat.not_lt_zero _)]; exact hR e he)
    have w1' : f_X8_take (nI (p i)) (nI (p (nxt n i))) (nI A) U = some W := w1
    obtain ⟨Z, z1, z2, z3⟩ := ih f (i + 1) W (by omega) (by omega) w2 w3
    refine ⟨Z, ?_, z2, z3⟩
    rw [← z1, f_X8_drop_49]
    simp (disch := omega) only [k_let, Option.bind_some, ↓reduceIte, eq_self, true_or, or_true, n01_0, n01_1, kb_or, kb_0T, kb_0F, vn_0, vn_1, vn_k, nl_0, nl_1, nl_2, nl_3, nl_4, nl_5, nl_6, nl_7, nl_8, nl_9, nl_10, nl_11, nl_12, nl_13, nl_14, nl_15, nl_16, nl_20, nl_21, nl_22, nl_23, nl_24, nl_25, nl_26, nl_27, nl_28, nl_29, nl_30, nl_31, nl_32, nl_40, nl_41, nl_42, nl_43, nl_45, nl_47, nl_48, nl_50, nl_57, nl_59, nl_60, nl_61, nl_62, nl_63, nl_64, nl_91, nl_93, nl_94, nl_97, nl_98, nl_100, nl_110, nl_122, nl_130, nl_144, nl_160, nl_240, nl_241, nl_255, nl_256, nl_400, nl_800, nl_900, nl_999, nl_1000, nl_1001, nl_1024, nl_1103, nl_1928, nl_4321, nl_5560, nl_12345, nl_1000000, nl_1000003, nl_252645135, nl_858993459, nl_1431655765, nl_1000000000, nI_add, pk_mul, n_sub, n_neg, n_cl, leT, leF, ltT, ltF, eqT, eqF, kbT, s_II, s_In, s_IJ, s_IA, s_IL, s_IR, s_IC, s_JI, s_JJ, s_Jn, s_JA, s_JL, s_JR, s_JC, s_AI, s_AJ, s_AA, s_An, s_AL, s_AR, s_AC, s_LI, s_LJ, s_LA, s_LL, s_Ln, s_LR, s_LC, k18, ↓b_of a1, ↓b_of a2, a2, ↓b_of w1']
/-! the reference's -/
def Md (r : Nat → Int32) (S U : St) (h : Nat → Nat) : Prop := Fr [] [] [53] [] S U ∧ (∀ d, d < nD r → gA U 53 (14 + 5 * d + 3) = nI (h d)) ∧ ∀ i, (∀ d, d < nD r → i ≠ 14 + 5 * d + 3) → gA U 53 i = r i
theorem Md.p {r : Nat → Int32} {V : Nat → Vd} {S U : St} {h : Nat → Nat} (hQ : Qm r V S) (M : Md r S U h) {t d : Nat} (ht : t < 6) (hd : d < nD r) :
    f_X12_debts U = some (nI (nD r), U) ∧ f_X12_ofDebt (nI d) (0 : Int32) U = some (nI (dOw r d), U) ∧ f_X12_ofDebt (nI d) (1 : Int32) U = some (nI (dCr r d), U) ∧ f_X12_ofDebt (nI d) (3 : Int32) U = some (nI (h d), U) ∧ f_X12_counts (nI d) (nI t) U = some (kB (ctB r V t d), U) := by
  obtain ⟨M1, M2, M3⟩ := M
  have w := hQ.1.1
  have h16 := w.n16
  have t8 := (w.tu hd).2
  have t6 := w.t6
  obtain ⟨j1, j2, j3⟩ := hQ.2.1 d hd
  rw [← M1.A (k := 67) rfl] at j2
  have p2 : f_X12_ofDebt (nI d) (2 : Int32) U = some (nI (dTu r d), U) := by
    rw [show (2 : Int32) = nI 2 from rfl, e_ofDebt (by omega) (by omega), M3 _ (fun e _ => by omega), (w.tu hd).1]
  refine ⟨?_, ?_, ?_, ?_, ?_⟩
  · rw [e_debts, M3 1 (fun e _ => by omega), w.r1]
  · rw [show (0 : Int32) = nI 0 from rfl, e_ofDebt (by omega) (by omega), M3 _ (fun e _ => by omega)]
    exact congrArg (fun v => some (v, U)) (w.ow hd).1
  · rw [show (1 : Int32) = nI 1 from rfl, e_ofDebt (by omega) (by omega), M3 _ (fun e _ => by omega), (w.cr hd).1]
  · rw [show (3 : Int32) = nI 3 from rfl, e_ofDebt (by omega) (by omega), M2 d hd]
  · unfold f_X12_counts f_X12_counts_23 f_X12_counts_24 ctB
    by_cases c : dTu r d = t
    · rw [decide_eq_true c]
      cases z : (V d).2.1 <;> rw [z] at j2 <;> simp (disch := omega) only [k_let, Option.bind_some, ↓reduceIte, eq_self, true_or, or_true, n01_0, n01_1, kb_or, kb_0T, kb_0F, vn_0, vn_1, vn_k, nl_0, nl_1, nl_2, nl_3, nl_4, nl_5, nl_6, nl_7, nl_8, nl_9, nl_10, nl_11, nl_12, nl_13, nl_14, nl_15, nl_16, nl_20, nl_21, nl_22, nl_23, nl_24, nl_25, nl_26, nl_27, nl_28, nl_29, nl_30, nl_31, nl_32, nl_40, nl_41, nl_42, nl_43, nl_45, nl_47, nl_48, nl_50, nl_57, nl_59, nl_60, nl_61, nl_62, nl_63, nl_64, nl_91, nl_93, nl_94, nl_97, nl_98, nl_100, nl_110, nl_122, nl_130, nl_144, nl_160, nl_240, nl_241, nl_255, nl_256, nl_400, nl_800, nl_900, nl_999, nl_1000, nl_1001, nl_1024, nl_1103, nl_1928, nl_4321, nl_5560, nl_12345, nl_1000000, nl_1000003, nl_252645135, nl_858993459, nl_1431655765, nl_1000000000, nI_add, pk_mul, n_sub, n_neg, n_cl, leT, leF, ltT, ltF, eqT, eqF, kbT, s_II, s_In, s_IJ, s_IA, s_IL, s_IR, s_IC, s_JI, s_JJ, s_Jn, s_JA, s_JL, s_JR, s_JC, s_AI, s_AJ, s_AA, s_An, s_AL, s_AR, s_AC, s_LI, s_LJ, s_LA, s_LL, s_Ln, s_LR, s_LC, ↓b_of p2, j2, kB_t, kB_f, Bool.not_true, Bool.not_false, Bool.true_and]
    · rw [decide_eq_false c]
      simp (disch := omega) only [k_let, Option.bind_some, ↓reduceIte, eq_self, true_or, or_true, n01_0, n01_1, kb_or, kb_0T, kb_0F, vn_0, vn_1, vn_k, nl_0, nl_1, nl_2, nl_3, nl_4, nl_5, nl_6, nl_7, nl_8, nl_9, nl_10, nl_11, nl_12, nl_13, nl_14, nl_15, nl_16, nl_20, nl_21, nl_22, nl_23, nl_24, nl_25, nl_26, nl_27, nl_28, nl_29, nl_30, nl_31, nl_32, nl_40, nl_41, nl_42, nl_43, nl_45, nl_47, nl_48, nl_50, nl_57, nl_59, nl_60, nl_61, nl_62, nl_63, nl_64, nl_91, nl_93, nl_94, nl_97, nl_98, nl_100, nl_110, nl_122, nl_130, nl_144, nl_160, nl_240, nl_241, nl_255, nl_256, nl_400, nl_800, nl_900, nl_999, nl_1000, nl_1001, nl_1024, nl_1103, nl_1928, nl_4321, nl_5560, nl_12345, nl_1000000, nl_1000003, nl_252645135, nl_858993459, nl_1431655765, nl_1000000000, nI_add, pk_mul, n_sub, n_neg, n_cl, leT, leF, ltT, ltF, eqT, eqF, kbT, s_II, s_In, s_IJ, s_IA, s_IL, s_IR, s_IC, s_JI, s_JJ, s_Jn, s_JA, s_JL, s_JR, s_JC, s_AI, s_AJ, s_AA, s_An, s_AL, s_AR, s_AC, s_LI, s_LJ, s_LA, s_LL, s_Ln, s_LR, s_LC, ↓b_of p2, kB_f, Bool.false_and]
theorem Md.set {r : Nat → Int32} {S U : St} {h g : Nat → Nat} (M : Md r S U h) {d : Nat} (hd : d < nD r) (hg : ∀ e, e < nD r → e ≠ d → g e = h e) : Md r S (sA U 53 (14 + 5 * d + 3) (nI (g d))) g := by
  obtain ⟨M1, M2, M3⟩ := M
  refine ⟨M1.sA rfl _ _, fun e he => ?_, fun i hi => ?_⟩
  · rw [s_AA, u_a]
    by_cases q : e = d
    · rw [if_pos (by omega), q]
    · rw [if_neg (by omega), M2 e he, hg e he q]
  · rw [s_AA, u_n (hi d hd), M3 i hi]
