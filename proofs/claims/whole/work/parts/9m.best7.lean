/-! part 9m: best: the row is read from its digits -/
theorem dvd_sm {c : Nat → Nat} : ∀ m, m ≤ 16 → ∀ p, p ≤ 16 - m → 10 ^ p ∣ sm (fun d => c d * 10 ^ (15 - d)) m := by
  intro m
  induction m with
  | zero => intro _ p _; exact ⟨0, rfl⟩
  | succ m ih =>
    intro hm p hp
    exact Nat.dvd_add (ih (by omega) p (by omega)) (Nat.dvd_trans (Nat.pow_dvd_pow 10 (show p ≤ 15 - m by omega)) (Nat.dvd_mul_left _ _))
theorem dig_x {c : Nat → Nat} (hc : ∀ e, c e ≤ 9) {d : Nat} : ∀ n, d < n → n ≤ 16 → ∃ q t, sm (fun d => c d * 10 ^ (15 - d)) n = (q * 10 + c d) * 10 ^ (15 - d) + t ∧ t + 10 ^ (16 - n) ≤ 10 ^ (15 - d) := by
  intro n
  induction n with
  | zero => intro h; omega
  | succ n ih =>
    intro h1 h2
    have es : sm (fun d => c d * 10 ^ (15 - d)) (n + 1) = sm (fun d => c d * 10 ^ (15 - d)) n + c n * 10 ^ (15 - n) := rfl
    have e2 : 16 - (n + 1) = 15 - n := by omega
    by_cases q : n = d
    · subst q
      obtain ⟨q, hq⟩ := dvd_sm (c := c) n (by omega) (16 - n) (Nat.le_refl _)
      have e1 : 16 - n = (15 - n) + 1 := by clear ih hq; omega
      rw [e1, Nat.pow_succ] at hq
      refine ⟨q, 0, ?_, ?_⟩
      · rw [es, hq, Nat.add_mul, Nat.add_zero]
        congr 1
        rw [Nat.mul_comm _ q, Nat.mul_assoc q 10, Nat.mul_comm 10]
      · rw [e2]; omega
    · obtain ⟨q, t, a, b⟩ := ih (by omega) (by omega)
      refine ⟨q, t + c n * 10 ^ (15 - n), by rw [es, a, Nat.add_assoc], ?_⟩
      have e1 : 16 - n = (15 - n) + 1 := by omega
      rw [e1, Nat.pow_succ] at b
      have h9 : c n * 10 ^ (15 - n) ≤ 9 * 10 ^ (15 - n) := Nat.mul_le_mul_right _ (hc n)
      rw [e2]
      omega
theorem dig_d {c : Nat → Nat} (hc : ∀ e, c e ≤ 9) {r : Nat → Int32} (w : Wf r) {d : Nat} (hd : d < nD r) : dg r c / 10 ^ (15 - d) % 10 = c d := by
  obtain ⟨q, t, a, b⟩ := dig_x hc (nD r) hd w.n16
  have hP : 0 < 10 ^ (15 - d) := Nat.pow_pos (by decide)
  have h0 : 0 < 10 ^ (16 - nD r) := Nat.pow_pos (by decide)
  have h9 := hc d
  unfold dg
  rw [a, Nat.mul_comm, Nat.mul_add_div hP, Nat.div_eq_of_lt (by omega)]
  omega
theorem dig_c {c : Nat → Nat} (hc : ∀ e, c e ≤ 9) {r : Nat → Int32} (w : Wf r) {d : Nat} (hd : d < nD r) : (lZ (dg r c : Int) / lZ (10 ^ (15 - d)) - lZ (dg r c : Int) / lZ (10 ^ (15 - d)) / (10 : Int64) * (10 : Int64)).toInt32 = nI (c d) := by
  have bd := dg_bd w hc
  have pb : 10 ^ (15 - d) ≤ 10 ^ 15 := Nat.pow_le_pow_right (by decide) (by omega)
  have p0 : 0 < 10 ^ (15 - d) := Nat.pow_pos (by decide)
  have ec : ((10 : Int) ^ (15 - d)) = ((10 ^ (15 - d) : Nat) : Int) := by push_cast; rfl
  have e1 : lZ (dg r c : Int) / lZ (10 ^ (15 - d)) = lZ ((dg r c / 10 ^ (15 - d) : Nat) : Int) := by
    rw [ec]
    have e : ((dg r c : Int)).tdiv (((10 ^ (15 - d) : Nat)) : Int) = ((dg r c / 10 ^ (15 - d) : Nat) : Int) := rfl
    rw [← e]
    generalize 10 ^ (15 - d) = P at *
    exact L_div (by omega) (by omega) (by omega) (by omega)
  have bq : dg r c / 10 ^ (15 - d) ≤ dg r c := Nat.div_le_self _ _
  have e2 := L_mod (a := dg r c / 10 ^ (15 - d)) (m := 10) (by omega) (by decide) (by decide)
  rw [e1, ll_10]
  show (lZ ((dg r c / 10 ^ (15 - d) : Nat) : Int) - lZ ((dg r c / 10 ^ (15 - d) : Nat) : Int) / lZ ((10 : Nat) : Int) * lZ ((10 : Nat) : Int)).toInt32 = _
  rw [e2, L_I, dig_d hc w hd, n_Z]
def usd (r : Nat → Int32) (c : Nat → Nat) (n k : Nat) : Bool := decide (0 < sm (fun d => if dOw r d = k then c d else 0) n)
theorem usd_0 {r : Nat → Int32} {c : Nat → Nat} {d : Nat} (h : c d = 0) : bs (usd r c (d + 1)) 8 = bs (usd r c d) 8 := bs_co (fun i _ => by
  unfold usd
  rw [sm_pos (b := false) (by
    by_cases q : dOw r d = i
    · rw [if_pos q, h]; rfl
    · rw [if_neg q]; rfl), Bool.or_false])
theorem usd_1 {r : Nat → Int32} {c : Nat → Nat} {d : Nat} (ho : dOw r d < 8) (h : 0 < c d) : bs (usd r c (d + 1)) 8 = bs (usd r c d) 8 ||| 2 ^ dOw r d := bs_or ho (fun i _ => by
  unfold usd
  rw [sm_pos (b := decide (dOw r d = i)) (by
    by_cases q : dOw r d = i
    · rw [if_pos q, decide_eq_true q, decide_eq_true h]
    · rw [if_neg q, decide_eq_false q]; rfl)])
theorem sm_m {f : Nat → Nat} {d n b : Nat} (h : d ≤ n) (hb : sm f n ≤ b) : sm f d ≤ b := Nat.le_trans (sm_mono h) hb
theorem l_read17 {r : Nat → Int32} {V : Nat → Vd} {S : St} {c : Nat → Nat} (hQ : Qc r V S) (hP : Pl S) (hc : ∀ e, c e ≤ 9) : ∀ (k f d : Nat) (U : St), d + k = nD r → k < f → Fr [22, 23, 24] [] [38] [] S U → gI U 22 = nI (sm (fun d => c d * (V d).1) d) → gI U 23 = nI (bs (usd r c d) 8) → gI U 24 = nI (sm (fun d => c d * dLn r d) d) → (∀ e, e < d → gA U 38 e = nI (c e)) →
    ∃ W, f_X2_read_17 f (lZ (dg r c : Int)) (nI d) U = some W ∧ Fr [22, 23, 24] [] [38] [] S W ∧ gI W 22 = nI (wo r V c) ∧ gI W 23 = nI (bs (us r c) 8) ∧ gI W 24 = nI (mi r c) ∧ ∀ e, e < nD r → gA W 38 e = nI (c e) := by
  have w := hQ.1.1
  have h16 := w.n16
  intro k
  induction k with
  | zero =>
    intro f d U hd hf hF h22 h23 h24 h38
    obtain ⟨f, rfl⟩ : ∃ g, f = g + 1 := ⟨f - 1, by omega⟩
    have : d = nD r := by omega
    subst this
    have k1 : gI U 1 = nI (nD r) := (hF.I (k := 1) rfl).trans hQ.1.I1
    refine ⟨U, ?_, hF, h22, h23, h24, h38⟩
    rw [f_X2_read_17, f_X2_read_144]
    simp (disch := omega) only [k_let, Option.bind_some, ↓reduceIte, eq_self, true_or, or_true, n01_0, n01_1, kb_or, kb_0T, kb_0F, vn_0, vn_1, vn_k, nl_0, nl_1, nl_2, nl_3, nl_4, nl_5, nl_6, nl_7, nl_8, nl_9, nl_10, nl_11, nl_12, nl_13, nl_14, nl_15, nl_16, nl_20, nl_21, nl_22, nl_23, nl_24, nl_25, nl_26, nl_27, nl_28, nl_29, nl_30, nl_31, nl_32, nl_40, nl_41, nl_42, nl_43, nl_45, nl_47, nl_48, nl_50, nl_57, nl_59, nl_60, nl_61, nl_62, nl_63, nl_64, nl_91, nl_93, nl_94, nl_97, nl_98, nl_100, nl_110, nl_122, nl_130, nl_144, nl_160, nl_240, nl_241, nl_255, nl_256, nl_400, nl_800, nl_900, nl_999, nl_1000, nl_1001, nl_1024, nl_1103, nl_1928, nl_4321, nl_5560, nl_12345, nl_1000000, nl_1000003, nl_252645135, nl_858993459, nl_1431655765, nl_1000000000, nI_add, pk_mul, n_sub, n_neg, n_cl, leT, leF, ltT, ltF, eqT, eqF, kbT, s_II, s_In, s_IJ, s_IA, s_IL, s_IR, s_IC, s_JI, s_JJ, s_Jn, s_JA, s_JL, s_JR, s_JC, s_AI, s_AJ, s_AA, s_An, s_AL, s_AR, s_AC, s_LI, s_LJ, s_LA, s_LL, s_Ln, s_LR, s_LC, k1]
  | succ k ih =>
    intro f d U hd hf hF h22 h23 h24 h38
    obtain ⟨f, rfl⟩ : ∃ g, f = g + 1 := ⟨f - 1, by omega⟩
    have hdn : d < nD r := by omega
    have k1 : gI U 1 = nI (nD r) := (hF.I (k := 1) rfl).trans hQ.1.I1
    have k37 : gL U 37 d = lZ (10 ^ (15 - d)) := by rw [hF.L (k := 37) rfl]; exact hP d (by omega)
    have pb : 10 ^ (15 - d) ≤ 10 ^ 15 := Nat.pow_le_pow_right (by decide) (by omega)
    have p0 : 0 < 10 ^ (15 - d) := Nat.pow_pos (by decide)
    have ec : ((10 : Int) ^ (15 - d)) = ((10 ^ (15 - d) : Nat) : Int) := by push_cast; rfl
    have g1 : (gL U 37 d ≤ (0 : Int64)) = False := by
      rw [k37, ec, ll_0]
      generalize 10 ^ (15 - d) = P at *
      exact L_leF (by omega) (by omega) (by omega)
    have g2 : (gL U 37 d = 0) = False := by
      rw [k37, ec, ll_0]
      generalize 10 ^ (15 - d) = P at *
      exact L_eqF (by omega) (by omega) (by omega) (by omega) (by omega)
    have g3 := dig_c hc w hdn
    rw [← k37] at g3
    have hc9 := hc d
    have b1 := wo_bd (V := V) w hQ.2.2 hc
    have b2 := mi_bd w hc
    have b3 := sm_m (f := fun d => c d * (V d).1) (show d ≤ nD r by omega) b1
    have b4 := sm_m (f := fun d => c d * dLn r d) (show d ≤ nD r by omega) b2
    have b5 := sm_m (f := fun d => c d * (V d).1) (show d + 1 ≤ nD r by omega) b1
    have b6 := sm_m (f := fun d => c d * dLn r d) (show d + 1 ≤ nD r by omega) b2
    have e5 : sm (fun d => c d * (V d).1) (d + 1) = sm (fun d => c d * (V d).1) d + c d * (V d).1 := rfl
    have e6 : sm (fun d => c d * dLn r d) (d + 1) = sm (fun d => c d * dLn r d) d + c d * dLn r d := rfl
    have o8 := (w.ow hdn).2
    have u256 := bs_256 (usd r c d)
    by_cases c0 : c d = 0
    · obtain ⟨W, w1, w2⟩ := ih f (d + 1) (sA U 38 d (nI 0)) (by omega) (by omega) (hF.sA rfl _ _) (by rw [s_AI, h22, e5, c0, Nat.zero_mul]; rfl) (by rw [s_AI, h23, usd_0 c0]) (by rw [s_AI, h24, e6, c0, Nat.zero_mul]; rfl) (fun e he => by
        rw [s_AA, u_a]
        by_cases q : e = d
        · rw [if_pos q, q, c0]
        · rw [if_neg q]; exact h38 e (by omega))
      refine ⟨W, ?_, w2⟩
      rw [c0] at g3
      rw [← w1, f_X2_read_17]
      simp (disch := omega) only [k_let, Option.bind_some, ↓reduceIte, eq_self, true_or, or_true, n01_0, n01_1, kb_or, kb_0T, kb_0F, vn_0, vn_1, vn_k, nl_0, nl_1, nl_2, nl_3, nl_4, nl_5, nl_6, nl_7, nl_8, nl_9, nl_10, nl_11, nl_12, nl_13, nl_14, nl_15, nl_16, nl_20, nl_21, nl_22, nl_23, nl_24, nl_25, nl_26, nl_27, nl_28, nl_29, nl_30, nl_31, nl_32, nl_40, nl_41, nl_42, nl_43, nl_45, nl_47, nl_48, nl_50, nl_57, nl_59, nl_60, nl_61, nl_62, nl_63, nl_64, nl_91, nl_93, nl_94, nl_97, nl_98, nl_100, nl_110, nl_122, nl_130, nl_144, nl_160, nl_240, nl_241, nl_255, nl_256, nl_400, nl_800, nl_900, nl_999, nl_1000, nl_1001, nl_1024, nl_1103, nl_1928, nl_4321, nl_5560, nl_12345, nl_1000000, nl_1000003, nl_252645135, nl_858993459, nl_1431655765, nl_1000000000, nI_add, pk_mul, n_sub, n_neg, n_cl, leT, leF, ltT, ltF, eqT, eqF, kbT, s_II, s_In, s_IJ, s_IA, s_IL, s_IR, s_IC, s_JI, s_JJ, s_Jn, s_JA, s_JL, s_JR, s_JC, s_AI, s_AJ, s_AA, s_An, s_AL, s_AR, s_AC, s_LI, s_LJ, s_LA, s_LL, s_Ln, s_LR, s_LC, k1, g1, g2, g3, not_false_eq_true, f_X2_read_62, f_X2_read_138]
    · have k18 := (hQ.2.1 d hdn).1
      rw [← hF.A (k := 18) rfl] at k18
      have k3 : gA U 3 d = nI (dOw r d) := by rw [hF.A (k := 3) rfl]; exact (hQ.1.C hdn).1
      have eb := usd_1 (r := r) (c := c) o8 (show 0 < c d by omega)
      rw [e5] at b5
      rw [e6] at b6
      obtain ⟨W, w1, w2⟩ := ih f (d + 1) (sI (sI (sI (sA U 38 d (nI (c d))) 22 (nI (sm (fun d => c d * (V d).1) d + c d * (V d).1))) 23 (nI (bs (usd r c d) 8 ||| 2 ^ dOw r d))) 24 (nI (sm (fun d => c d * dLn r d) d + c d * dLn r d))) (by omega) (by omega) ((((hF.sA rfl _ _).sI rfl _).sI rfl _).sI rfl _) (by rw [s_In (by decide), s_In (by decide), s_II, e5]) (by rw [s_In (by decide), s_II, eb]) (by rw [s_II, e6]) (fun e he => by
        rw [s_IA, s_IA, s_IA, s_AA, u_a]
        by_cases q : e = d
        · rw [if_pos q, q]
        · rw [if_neg q]; exact h38 e (by omega))
      refine ⟨W, ?_, w2⟩
      have hT := hQ.fr ((((hF.sA (k := 38) rfl d (nI (c d))).sI (k := 22) rfl (nI (sm (fun d => c d * (V d).1) d + c d * (V d).1))).sI (k := 23) rfl (nI (bs (usd r c d) 8 ||| 2 ^ dOw r d)))) rfl rfl rfl rfl rfl
      have pl := e_lenD hT.1 hdn
      rw [← w1, f_X2_read_17]
      generalize sm (fun d => c d * (V d).1) d = x1 at *
      generalize sm (fun d => c d * dLn r d) d = x2 at *
      generalize bs (usd r c d) 8 = x3 at *
      generalize hz1 : c d * (V d).1 = y1 at *
      generalize hz2 : c d * dLn r d = y2 at *
      generalize hz3 : c d = y3 at *
      simp (disch := omega) only [k_let, Option.bind_some, ↓reduceIte, eq_self, true_or, or_true, n01_0, n01_1, kb_or, kb_0T, kb_0F, vn_0, vn_1, vn_k, nl_0, nl_1, nl_2, nl_3, nl_4, nl_5, nl_6, nl_7, nl_8, nl_9, nl_10, nl_11, nl_12, nl_13, nl_14, nl_15, nl_16, nl_20, nl_21, nl_22, nl_23, nl_24, nl_25, nl_26, nl_27, nl_28, nl_29, nl_30, nl_31, nl_32, nl_40, nl_41, nl_42, nl_43, nl_45, nl_47, nl_48, nl_50, nl_57, nl_59, nl_60, nl_61, nl_62, nl_63, nl_64, nl_91, nl_93, nl_94, nl_97, nl_98, nl_100, nl_110, nl_122, nl_130, nl_144, nl_160, nl_240, nl_241, nl_255, nl_256, nl_400, nl_800, nl_900, nl_999, nl_1000, nl_1001, nl_1024, nl_1103, nl_1928, nl_4321, nl_5560, nl_12345, nl_1000000, nl_1000003, nl_252645135, nl_858993459, nl_1431655765, nl_1000000000, nI_add, pk_mul, n_sub, n_neg, n_cl, leT, leF, ltT, ltF, eqT, eqF, kbT, s_II, s_In, s_IJ, s_IA, s_IL, s_IR, s_IC, s_JI, s_JJ, s_Jn, s_JA, s_JL, s_JR, s_JC, s_AI, s_AJ, s_AA, s_An, s_AL, s_AR, s_AC, s_LI, s_LJ, s_LA, s_LL, s_Ln, s_LR, s_LC, k1, g1, g2, g3, not_false_eq_true, f_X2_read_62, f_X2_read_138, h22, h23, h24, k18, k3, n_shl1, n_or, hz1, hz2, ↓b_of pl]
