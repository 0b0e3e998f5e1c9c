/-! part 95: the class's search for a ring -/
theorem pc_ps {p : Nat → Nat} : ∀ {n : Nat}, (∀ i, i < n → p i < 8) → (∀ i j, i < n → j < n → p i = p j → i = j) → pc16 (ps p n) = n := by
  intro n
  induction n with
  | zero => intro _ _; exact (show pc16 0 = 0 by decide)
  | succ n ih =>
    intro h hi
    have e := ih (fun i hx => h i (by omega)) (fun i j hx hy => hi i j (by omega) (by omega))
    have hb : (ps p n).testBit (p n) = false := by
      cases z : (ps p n).testBit (p n) with
      | false => rfl
      | true =>
        obtain ⟨i, i1, i2⟩ := (ps_tb p (p n) n).mp z
        have := hi i n (by omega) (by omega) i2
        omega
    show pc16 (ps p n ||| 2 ^ p n) = n + 1
    rw [pc_or _ (ps_lt (fun i hx => h i (by omega))) _ (h n (by omega)) hb, e]
theorem Cy.n8 {E : Nat → Nat → Bool} {n : Nat} {p : Nat → Nat} (h : Cy E n p) : n ≤ 8 := by
  have := pc_8 _ (ps_lt (p := p) (n := n) h.2.1)
  rw [pc_ps h.2.1 h.2.2.1] at this
  exact this
theorem ex_be {E : Nat → Nat → Bool} : ∀ (k n : Nat) (p : Nat → Nat), n * 256 + ps p n < k → CyM E n p → ∃ m q, Be E m q ∧ (m < n ∨ (m = n ∧ ps q m ≤ ps p n)) := by
  intro k
  induction k with
  | zero => intro n p h; exact absurd h (Nat.not_lt_zero _)
  | succ k ih =>
    intro n p h hc
    by_cases b : Be E n p
    · exact ⟨n, p, b, Or.inr ⟨rfl, Nat.le_refl _⟩⟩
    · have : ∃ n' p', CyM E n' p' ∧ ¬ (n < n' ∨ (n = n' ∧ ps p n ≤ ps p' n')) := by
        apply Classical.byContradiction
        intro q
        refine b ⟨hc, fun n' p' h' => ?_⟩
        apply Classical.byContradiction
        intro q2
        exact q ⟨n', p', h', q2⟩
      obtain ⟨n', p', h', q⟩ := this
      have ih2 := ih
      have hh := h'
      have l1 := ps_lt (p := p) (n := n) hc.1.2.1
      have l2 := ps_lt (p := p') (n := n') h'.1.2.1
      have q1 : ¬ n < n' := fun z => q (Or.inl z)
      have q2 : n = n' → ¬ ps p n ≤ ps p' n' := fun e z => q (Or.inr ⟨e, z⟩)
      have hlt : n' * 256 + ps p' n' < k := by
        clear ih ih2 b hc h' hh q
        by_cases e : n = n'
        · have := q2 e
          rw [e] at h this
          exact Nat.lt_of_lt_of_le (Nat.add_lt_add_left (Nat.lt_of_not_le this) _) (Nat.le_of_lt_succ h)
        · have e2 : (n' + 1) * 256 ≤ n * 256 := Nat.mul_le_mul_right _ (by omega)
          rw [Nat.add_mul, Nat.one_mul] at e2
          exact Nat.lt_of_lt_of_le (Nat.add_lt_add_left l2 _) (Nat.le_trans e2 (Nat.le_trans (Nat.le_add_right _ _) (Nat.le_of_lt_succ h)))
      obtain ⟨m, r, b1, b2⟩ := ih2 n' p' hlt hh
      refine ⟨m, r, b1, ?_⟩
      by_cases e : n = n'
      · have := q2 e
        omega
      · omega
def eAd (ad : Nat → Nat) (i j : Nat) : Bool := (ad i).testBit j
theorem and_tb (a b k : Nat) : (a &&& b).testBit k = (a.testBit k && b.testBit k) := Nat.testBit_and a b k
theorem lo_min {s k : Nat} (hk : k < 8) (h : s.testBit k = true) : lo s ≤ k := by
  obtain ⟨a1, a2, a3⟩ := lo_spec (s := s)
  by_cases c : k < lo s
  · have := a2 k c hk
    rw [this] at h
    exact Bool.noConfusion h
  · omega
theorem GR.cy {ad : Nat → Nat} {s n : Nat} (hs : s < 256) (h2 : 2 ≤ n) (hp : pc16 s = n) (h : GR ad s n) : CyM (eAd ad) n (wk ad s) ∧ ps (wk ad s) n = s := by
  obtain ⟨g1, g2, g3⟩ := h
  have ins : ∀ i, i < n → s.testBit (wk ad s i) = true := fun i hi => by
    cases i with
    | zero => exact (lo_spec (s := s)).1 (g1 0 hi)
    | succ i =>
      have := (lo_spec (s := ad (wk ad s i) &&& s)).1 (g1 (i + 1) hi)
      rw [and_tb, Bool.and_eq_true] at this
      exact this.2
  have edg : ∀ i, wk ad s (i + 1) < 8 → eAd ad (wk ad s i) (wk ad s (i + 1)) = true := fun i hi => by
    have := (lo_spec (s := ad (wk ad s i) &&& s)).1 hi
    rw [and_tb, Bool.and_eq_true] at this
    exact this.1
  refine ⟨⟨⟨h2, g1, g2, fun i hi => edg i (g1 _ hi), ?_⟩, fun i h0 hi => ?_⟩, ?_⟩
  · have := edg (n - 1) (by rw [show n - 1 + 1 = n by omega, g3]; exact g1 0 (by omega))
    rw [show n - 1 + 1 = n by omega, g3] at this
    exact this
  · refine Nat.lt_of_le_of_ne (lo_min (g1 i hi) (ins i hi)) (fun e => ?_)
    have := g2 0 i (by omega) hi e
    omega
  · refine pc_sub _ (ps_lt g1) _ hs (sub_iff.mpr (fun k hk => ?_)) (by rw [pc_ps g1 g2, hp])
    obtain ⟨i, i1, i2⟩ := (ps_tb _ _ _).mp hk
    rw [← i2]; exact ins i i1
theorem be_wk {ad : Nat → Nat} (hE : ∀ a, eAd ad a a = false) {n : Nat} {p : Nat → Nat} (h : Be (eAd ad) n p) : ∀ i, i ≤ n → wk ad (ps p n) i = p (if i = n then 0 else i) := by
  obtain ⟨⟨hc, hm⟩, hb⟩ := h
  obtain ⟨h2, h8, hinj, he, hcl⟩ := hc
  intro i
  induction i with
  | zero =>
    intro _
    rw [if_neg (by omega)]
    refine lo_eq (h8 0 (by omega)) ((ps_tb _ _ _).mpr ⟨0, by omega, rfl⟩) (fun k hk => ?_)
    cases z : (ps p n).testBit k with
    | false => rfl
    | true =>
      obtain ⟨j, j1, j2⟩ := (ps_tb _ _ _).mp z
      by_cases q : j = 0
      · rw [q] at j2; omega
      · have := hm j (by omega) j1; omega
  | succ i ih =>
    intro hi
    have e0 := ih (by omega)
    rw [if_neg (by omega)] at e0
    show lo (ad (wk ad (ps p n) i) &&& ps p n) = _
    rw [e0]
    have nx8 : (if i + 1 = n then 0 else i + 1) < n := by
      by_cases q : i + 1 = n
      · rw [if_pos q]; omega
      · rw [if_neg q]; omega
    have ed : eAd ad (p i) (p (if i + 1 = n then 0 else i + 1)) = true := by
      by_cases q : i + 1 = n
      · rw [if_pos q, show i = n - 1 by omega]; exact hcl
      · rw [if_neg q]; exact he i (by omega)
    refine lo_eq (h8 _ nx8) ?_ (fun k hk => ?_)
    · rw [and_tb, Bool.and_eq_true]
      exact ⟨ed, (ps_tb _ _ _).mpr ⟨_, nx8, rfl⟩⟩
    · cases z : (ad (p i) &&& ps p n).testBit k with
      | false => rfl
      | true =>
        rw [and_tb, Bool.and_eq_true] at z
        obtain ⟨j, j1, j2⟩ := (ps_tb _ _ _).mp z.2
        have := chord hE (fun n' p' hq => by have := hb n' p' hq; omega) ⟨h2, h8, hinj, he, hcl⟩ (show i < n by omega) j1 (by rw [j2]; exact z.1)
        rw [← this, j2] at hk
        omega
theorem Be.gr {ad : Nat → Nat} (hE : ∀ a, eAd ad a a = false) {n : Nat} {p : Nat → Nat} (h : Be (eAd ad) n p) : GR ad (ps p n) n := by
  have key := be_wk hE h
  obtain ⟨⟨⟨h2, h8, hinj, he, hcl⟩, hm⟩, hb⟩ := h
  have kl : ∀ i, i < n → wk ad (ps p n) i = p i := fun i hi => by rw [key i (by omega), if_neg (by omega)]
  refine ⟨fun i hi => by rw [kl i hi]; exact h8 i hi, fun i j hi hj e => ?_, ?_⟩
  · rw [kl i hi, kl j hj] at e; exact hinj i j hi hj e
  · rw [key n (Nat.le_refl _), kl 0 (by omega), if_pos rfl]
def rFd (ad : Nat → Nat) (X n s : Nat) : Prop := s &&& X = s ∧ pc16 s = n ∧ GR ad s n
theorem rFd.lt {ad : Nat → Nat} {X n s : Nat} (h : rFd ad X n s) : s ≤ X := by
  rw [← h.1]; exact Nat.and_le_right
theorem l_143 {ad : Nat → Nat} {X n : Nat} {S : St} {K : Int32 → Int32 → St → Option (Int32 × St)} (hX : X < 256) (hn : n ≤ 8) (hn2 : 2 ≤ n) (ha : ∀ k, k < 8 → gA S 30 k = nI (ad k) ∧ ad k < 256) : ∀ (m f s : Nat) (U : St), s + m = X + 1 → m < f → Fr [] [] [31] [] S U → (∀ s', s' < s → ¬ rFd ad X n s') →
    (∃ s1 W, f_X8_find_143 K f (nI X) (nI n) (nI s) U = some (nI 1, sI W 18 (nI n)) ∧ rFd ad X n s1 ∧ (∀ s', s' < s1 → ¬ rFd ad X n s') ∧ Fr [] [] [31] [] S W ∧ ∀ j, j < n → gA W 31 j = nI (wk ad s1 j)) ∨
    (∃ W, f_X8_find_143 K f (nI X) (nI n) (nI s) U = K (nI X) (nI (n + 1)) W ∧ Fr [] [] [31] [] S W ∧ ∀ s', ¬ rFd ad X n s') := by
  intro m
  induction m with
  | zero =>
    intro f s U hi hf hF hN
    obtain ⟨f, rfl⟩ : ∃ g, f = g + 1 := ⟨f - 1, by omega⟩
    refine Or.inr ⟨U, ?_, hF, fun s' h' => ?_⟩
    · rw [f_X8_find_143]
      simp (disch := omega) only [k_let, Option.bind_some, ↓reduceIte, eq_self, true_or, or_true, n01_0, n01_1, kb_or, kb_0T, kb_0F, vn_0, vn_1, vn_k, nl_0, nl_1, nl_2, nl_3, nl_4, nl_5, nl_6, nl_7, nl_8, nl_9, nl_10, nl_11, nl_12, nl_13, nl_14, nl_15, nl_16, nl_20, nl_21, nl_22, nl_23, nl_24, nl_25, nl_26, nl_27, nl_28, nl_29, nl_30, nl_31, nl_32, nl_40, nl_41, nl_42, nl_43, nl_45, nl_47, nl_48, nl_50, nl_57, nl_59, nl_60, nl_61, nl_62, nl_63, nl_64, nl_91, nl_93, nl_94, nl_97, nl_98, nl_100, nl_110, nl_122, nl_130, nl_144, nl_160, nl_240, nl_241, nl_255, nl_256, nl_400, nl_800, nl_900, nl_999, nl_1000, nl_1001, nl_1024, nl_1103, nl_1928, nl_4321, nl_5560, nl_12345, nl_1000000, nl_1000003, nl_252645135, nl_858993459, nl_1431655765, nl_1000000000, nI_add, pk_mul, n_sub, n_neg, n_cl, leT, leF, ltT, ltF, eqT, eqF, kbT, s_II, s_In, s_IJ, s_IA, s_IL, s_IR, s_IC, s_JI, s_JJ, s_Jn, s_JA, s_JL, s_JR, s_JC, s_AI, s_AJ, s_AA, s_An, s_AL, s_AR, s_AC, s_LI, s_LJ, s_LA, s_LL, s_Ln, s_LR, s_LC, f_X8_find_203]
    · have := h'.lt
      exact hN s' (by omega) h'
  | succ m ih =>
    intro f s U hi hf hF hN
    obtain ⟨f, rfl⟩ : ∃ g, f = g + 1 := ⟨f - 1, by omega⟩
    have hs : s < 256 := by omega
    have haU : ∀ k, k < 8 → gA U 30 k = nI (ad k) ∧ ad k < 256 := fun k hk => by rw [hF.A (k := 30) rfl]; exact ha k hk
    have ban : nI s &&& nI X = nI (s &&& X) := n_and s X
    have bl : s &&& X < 256 := Nat.lt_of_le_of_lt Nat.and_le_left hs
    have p8 := pc_8 s hs
    have next : ¬ rFd ad X n s → ∀ s', s' < s + 1 → ¬ rFd ad X n s' := fun q s' h' => by
      by_cases z : s' = s
      · rw [z]; exact q
      · exact hN s' (by omega)
    by_cases c1 : s &&& X = s
    · have bc := bitc s hs U
      by_cases c2 : pc16 s = n
      · obtain ⟨b, W, b1, b2, b3, b4⟩ := e_goes hs hn hn2 haU
        cases z : b with
        | true =>
          rw [z] at b1 b3 b4
          rw [kB_t] at b1
          refine Or.inl ⟨s, W, ?_, ⟨c1, c2, b3.mp rfl⟩, hN, hF.trans b2, b4 rfl⟩
          rw [f_X8_find_143]
          simp (disch := omega) only [k_let, Option.bind_some, ↓reduceIte, eq_self, true_or, or_true, n01_0, n01_1, kb_or, kb_0T, kb_0F, vn_0, vn_1, vn_k, nl_0, nl_1, nl_2, nl_3, nl_4, nl_5, nl_6, nl_7, nl_8, nl_9, nl_10, nl_11, nl_12, nl_13, nl_14, nl_15, nl_16, nl_20, nl_21, nl_22, nl_23, nl_24, nl_25, nl_26, nl_27, nl_28, nl_29, nl_30, nl_31, nl_32, nl_40, nl_41, nl_42, nl_43, nl_45, nl_47, nl_48, nl_50, nl_57, nl_59, nl_60, nl_61, nl_62, nl_63, nl_64, nl_91, nl_93, nl_94, nl_97, nl_98, nl_100, nl_110, nl_122, nl_130, nl_144, nl_160, nl_240, nl_241, nl_255, nl_256, nl_400, nl_800, nl_900, nl_999, nl_1000, nl_1001, nl_1024, nl_1103, nl_1928, nl_4321, nl_5560, nl_12345, nl_1000000, nl_1000003, nl_252645135, nl_858993459, nl_1431655765, nl_1000000000, leT, leF, ltT, ltF, eqT, eqF, kbT, ban, c1, ↓b_of bc, ↓b_of b1]
        | false =>
          rw [z] at b1 b3
          rw [kB_f] at b1
          have nf : ¬ rFd ad X n s := fun q => Bool.noConfusion (b3.mpr q.2.2)
          have e : f_X8_find_143 K (f + 1) (nI X) (nI n) (nI s) U = f_X8_find_143 K f (nI X) (nI n) (nI (s + 1)) W := by
            rw [f_X8_find_143]
            simp (disch := omega) only [k_let, Option.bind_some, ↓reduceIte, eq_self, true_or, or_true, n01_0, n01_1, kb_or, kb_0T, kb_0F, vn_0, vn_1, vn_k, nl_0, nl_1, nl_2, nl_3, nl_4, nl_5, nl_6, nl_7, nl_8, nl_9, nl_10, nl_11, nl_12, nl_13, nl_14, nl_15, nl_16, nl_20, nl_21, nl_22, nl_23, nl_24, nl_25, nl_26, nl_27, nl_28, nl_29, nl_30, nl_31, nl_32, nl_40, nl_41, nl_42, nl_43, nl_45, nl_47, nl_48, nl_50, nl_57, nl_59, nl_60, nl_61, nl_62, nl_63, nl_64, nl_91, nl_93, nl_94, nl_97, nl_98, nl_100, nl_110, nl_122, nl_130, nl_144, nl_160, nl_240, nl_241, nl_255, nl_256, nl_400, nl_800, nl_900, nl_999, nl_1000, nl_1001, nl_1024, nl_1103, nl_1928, nl_4321, nl_5560, nl_12345, nl_1000000, nl_1000003, nl_252645135, nl_858993459, nl_1431655765, nl_1000000000, leT, leF, ltT, ltF, eqT, eqF, kbT, nI_add, ban, c1, ↓b_of bc, ↓b_of b1, f_X8_find_197]
          rw [e]
          exact ih f (s + 1) W (by omega) (by omega) (hF.trans b2) (next nf)
      · have e : f_X8_find_143 K (f + 1) (nI X) (nI n) (nI s) U = f_X8_find_143 K f (nI X) (nI n) (nI (s + 1)) U := by
          rw [f_X8_find_143]
          simp (disch := omega) only [k_let, Option.bind_some, ↓reduceIte, eq_self, true_or, or_true, n01_0, n01_1, kb_or, kb_0T, kb_0F, vn_0, vn_1, vn_k, nl_0, nl_1, nl_2, nl_3, nl_4, nl_5, nl_6, nl_7, nl_8, nl_9, nl_10, nl_11, nl_12, nl_13, nl_14, nl_15, nl_16, nl_20, nl_21, nl_22, nl_23, nl_24, nl_25, nl_26, nl_27, nl_28, nl_29, nl_30, nl_31, nl_32, nl_40, nl_41, nl_42, nl_43, nl_45, nl_47, nl_48, nl_50, nl_57, nl_59, nl_60, nl_61, nl_62, nl_63, nl_64, nl_91, nl_93, nl_94, nl_97, nl_98, nl_100, nl_110, nl_122, nl_130, nl_144, nl_160, nl_240, nl_241, nl_255, nl_256, nl_400, nl_800, nl_900, nl_999, nl_1000, nl_1001, nl_1024, nl_1103, nl_1928, nl_4321, nl_5560, nl_12345, nl_1000000, nl_1000003, nl_252645135, nl_858993459, nl_1431655765, nl_1000000000, leT, leF, ltT, ltF, eqT, eqF, kbT, nI_add, ban, c1, ↓b_of bc, f_X8_find_197]
        rw [e]
        exact ih f (s + 1) U (by omega) (by omega) hF (next (fun q => c2 q.2.1))
    · have e : f_X8_find_143 K (f + 1) (nI X) (nI n) (nI s) U = f_X8_find_143 K f (nI X) (nI n) (nI (s + 1)) U := by
        rw [f_X8_find_143]
        simp (disch := omega) only [k_let, Option.bind_some, ↓reduceIte, eq_self, true_or, or_true, n01_0, n01_1, kb_or, kb_0T, kb_0F, vn_0, vn_1, vn_k, nl_0, nl_1, nl_2, nl_3, nl_4, nl_5, nl_6, nl_7, nl_8, nl_9, nl_10, nl_11, nl_12, nl_13, nl_14, nl_15, nl_16, nl_20, nl_21, nl_22, nl_23, nl_24, nl_25, nl_26, nl_27, nl_28, nl_29, nl_30, nl_31, nl_32, nl_40, nl_41, nl_42, nl_43, nl_45, nl_47, nl_48, nl_50, nl_57, nl_59, nl_60, nl_61, nl_62, nl_63, nl_64, nl_91, nl_93, nl_94, nl_97, nl_98, nl_100, nl_110, nl_122, nl_130, nl_144, nl_160, nl_240, nl_241, nl_255, nl_256, nl_400, nl_800, nl_900, nl_999, nl_1000, nl_1001, nl_1024, nl_1103, nl_1928, nl_4321, nl_5560, nl_12345, nl_1000000, nl_1000003, nl_252645135, nl_858993459, nl_1431655765, nl_1000000000, leT, leF, ltT, ltF, eqT, eqF, kbT, nI_add, ban, f_X8_find_197]
      rw [e]
      exact ih f (s + 1) U (by omega) (by omega) hF (next (fun q => c1 q.1))
