/-! part 98: the reference's search -/
def TT : Nat → Nat
  | 0 => 0
  | L + 1 => 8 * (2 + TT L)
def Ext (ad : Nat → Nat) (p : Nat → Nat) (x c n : Nat) (q : Nat → Nat) : Prop := CyM (eAd ad) n q ∧ x < n ∧ (∀ i, i < x → q i = p i) ∧ c < q x
/-- the search at depth x -/
def Lv (ad : Nat → Nat) (a x : Nat) : Prop := ∀ (m c : Nat) (p : Nat → Nat) (U : St) (P : Nat → (Nat → Nat) → Prop), 1 ≤ x → x ≤ 7 → c + m = 7 → p 0 = a → (∀ i, i < x → p i < 8) → (∀ i j, i < x → j < x → p i = p j → i = j) → (∀ i, 0 < i → i < x → a < p i) → (∀ i, i + 1 < x → eAd ad (p i) (p (i + 1)) = true) → a ≤ c →
  (∀ k, k < 8 → gA U 71 k = nI (ad k) ∧ ad k < 256) → (∀ i, i < x → gA U 72 i = nI (p i)) → gA U 72 x = nI c → KpR P U →
  ∃ k W, k ≤ (m + 1) * (2 + TT (7 - x)) ∧ (∀ g, f_X12_goRound_20 (g + k) (nI a) (nI x) (nI (ps p x)) U = f_X12_goRound_20 g (nI a) (nI (x - 1)) (nI (if x = 1 then ps p x else ps p (x - 1))) W) ∧ Fr [49, 50] [] [72, 73] [] U W ∧ (∀ i, i < x → gA W 72 i = nI (p i)) ∧ KpR (fun n q => P n q ∨ Ext ad p x c n q) W
theorem an_ps {p : Nat → Nat} {x : Nat} (h8 : ∀ i, i < x + 1 → p i < 8) (hi : ∀ i j, i < x + 1 → j < x + 1 → p i = p j → i = j) : an (ps p (x + 1)) (2 ^ p x) = ps p x := by
  refine tb_ext (m := 8) (Nat.lt_of_le_of_lt (an_le _ _) (ps_lt h8)) (ps_lt (fun i hx => h8 i (by omega))) (fun k hk => ?_)
  show (an (ps p x ||| 2 ^ p x) (2 ^ p x)).testBit k = _
  rw [an_tb, or_tb, tb_2]
  by_cases q : p x = k
  · rw [decide_eq_true q]
    cases z : (ps p x).testBit k with
    | false => rfl
    | true =>
      obtain ⟨i, i1, i2⟩ := (ps_tb _ _ _).mp z
      have := hi i x (by omega) (by omega) (i2.trans q.symm)
      omega
  · rw [decide_eq_false q, Bool.or_false, Bool.not_false, Bool.and_true]
theorem l_lv {ad : Nat → Nat} {a x : Nat} (ha8 : a < 8) (hCh : x < 7 → Lv ad a (x + 1)) : Lv ad a x := by
  intro m
  induction m with
  | zero =>
    intro c p U P h1 h7 hc p0 h8 hi hg he hac h71 h72 hx hK
    have : c = 7 := by omega
    subst this
    refine ⟨1, sA U 72 x (nI 8), by omega, fun g => ?_, (Fr.refl U).sA rfl _ _, fun i hxi => ?_, ?_⟩
    · rw [f_X12_goRound_20]
      have em : nI x + iZ (-((1 : Nat) : Int)) = nI (x - 1) := by
        rw [z_na, show (x : Int) + -((1 : Nat) : Int) = ((x - 1 : Nat) : Int) by omega]; rfl
      have g8 : gA (sA U 72 x (nI 8)) 72 x = nI 8 := by rw [s_AA, u_s]
      by_cases q : x = 1
      · subst q
        rw [if_pos rfl]
        simp (disch := omega) only [k_let, Option.bind_some, ↓reduceIte, eq_self, true_or, or_true, n01_0, n01_1, kb_or, kb_0T, kb_0F, vn_0, vn_1, vn_k, nl_0, nl_1, nl_2, nl_3, nl_4, nl_5, nl_6, nl_7, nl_8, nl_9, nl_10, nl_11, nl_12, nl_13, nl_14, nl_15, nl_16, nl_20, nl_21, nl_22, nl_23, nl_24, nl_25, nl_26, nl_27, nl_28, nl_29, nl_30, nl_31, nl_32, nl_40, nl_41, nl_42, nl_43, nl_45, nl_47, nl_48, nl_50, nl_57, nl_59, nl_60, nl_61, nl_62, nl_63, nl_64, nl_91, nl_93, nl_94, nl_97, nl_98, nl_100, nl_110, nl_122, nl_130, nl_144, nl_160, nl_240, nl_241, nl_255, nl_256, nl_400, nl_800, nl_900, nl_999, nl_1000, nl_1001, nl_1024, nl_1103, nl_1928, nl_4321, nl_5560, nl_12345, nl_1000000, nl_1000003, nl_252645135, nl_858993459, nl_1431655765, nl_1000000000, leT, leF, ltT, ltF, eqT, eqF, kbT, nI_add, n_cl, n_neg, hx, em, g8, f_X12_goRound_72, f_X12_goRound_163]
      · rw [if_neg q]
        have gm : gA (sA U 72 x (nI 8)) 72 (x - 1) = nI (p (x - 1)) := by rw [s_AA, u_n (by omega)]; exact h72 _ (by omega)
        have pl := ps_lt (p := p) (n := x) h8
        have p8 := h8 (x - 1) (by omega)
        have ea : nI (ps p x) &&& (nI (2 ^ p (x - 1)) ^^^ iZ (-((1 : Nat) : Int))) = nI (ps p (x - 1)) := by
          rw [n_an (by omega)]
          have := an_ps (p := p) (x := x - 1) (fun i hx => h8 i (by omega)) (fun i j hx hy => hi i j (by omega) (by omega))
          rw [show x - 1 + 1 = x by omega] at this
          rw [this]
        simp (disch := omega) only [k_let, Option.bind_some, ↓reduceIte, eq_self, true_or, or_true, n01_0, n01_1, kb_or, kb_0T, kb_0F, vn_0, vn_1, vn_k, nl_0, nl_1, nl_2, nl_3, nl_4, nl_5, nl_6, nl_7, nl_8, nl_9, nl_10, nl_11, nl_12, nl_13, nl_14, nl_15, nl_16, nl_20, nl_21, nl_22, nl_23, nl_24, nl_25, nl_26, nl_27, nl_28, nl_29, nl_30, nl_31, nl_32, nl_40, nl_41, nl_42, nl_43, nl_45, nl_47, nl_48, nl_50, nl_57, nl_59, nl_60, nl_61, nl_62, nl_63, nl_64, nl_91, nl_93, nl_94, nl_97, nl_98, nl_100, nl_110, nl_122, nl_130, nl_144, nl_160, nl_240, nl_241, nl_255, nl_256, nl_400, nl_800, nl_900, nl_999, nl_1000, nl_1001, nl_1024, nl_1103, nl_1928, nl_4321, nl_5560, nl_12345, nl_1000000, nl_1000003, nl_252645135, nl_858993459, nl_1431655765, nl_1000000000, leT, leF, ltT, ltF, eqT, eqF, kbT, nI_add, n_cl, n_neg, hx, em, g8, gm, n_shl1, ea, f_X12_goRound_72, f_X12_goRound_163]
    · rw [s_AA, u_n (by omega)]; exact h72 i hxi
    · refine (hK.fr ((Fr.refl U).sA (ci := []) (cj := []) (ca := [72]) (cl := []) (k := 72) rfl x (nI 8)) rfl rfl rfl).iff (fun n q => ⟨Or.inl, fun z => ?_⟩)
      rcases z with z | z
      · exact z
      · have := z.1.1.2.1 x z.2.1
        have := z.2.2.2
        omega
  | succ m ih =>
    intro c p U P h1 h7 hc p0 h8 hi hg he hac h71 h72 hx hK
    have f1 : Fr [49, 50] [] [72, 73] [] U (sA U 72 x (nI (c + 1))) := (Fr.refl U).sA rfl _ _
    have f1s : Fr [] [] [72] [] U (sA U 72 x (nI (c + 1))) := (Fr.refl U).sA rfl _ _
    have gx : gA (sA U 72 x (nI (c + 1))) 72 x = nI (c + 1) := by rw [s_AA, u_s]
    have gi : ∀ i, i < x → gA (sA U 72 x (nI (c + 1))) 72 i = nI (p i) := fun i hxi => by rw [s_AA, u_n (by omega)]; exact h72 i hxi
    have g71 : ∀ k, k < 8 → gA (sA U 72 x (nI (c + 1))) 71 k = nI (ad k) ∧ ad k < 256 := fun k hk => by rw [f1.A (k := 71) rfl]; exact h71 k hk
    have pl := ps_lt (p := p) (n := x) h8
    have pm8 := h8 (x - 1) (by omega)
    have em : nI x - nI 1 = nI (x - 1) := n_sub h1
    have q1 := e_is (s := ps p x) (k := c + 1) (by omega) (by omega) (sA U 72 x (nI (c + 1)))
    obtain ⟨m1, m2⟩ := g71 (p (x - 1)) pm8
    have q2 := e_is (s := ad (p (x - 1))) (k := c + 1) (by omega) (by omega) (sA U 72 x (nI (c + 1)))
    obtain ⟨m3, m4⟩ := g71 (c + 1) (by omega)
    have q3 := e_is (s := ad (c + 1)) (k := a) (by omega) (by omega) (sA U 72 x (nI (c + 1)))
    have gm := gi (x - 1) (by omega)
    have skip : (∀ n q, Ext ad p x c n q → q x ≠ c + 1) → (∀ g, f_X12_goRound_20 (g + 1) (nI a) (nI x) (nI (ps p x)) U = f_X12_goRound_20 g (nI a) (nI x) (nI (ps p x)) (sA U 72 x (nI (c + 1)))) → ∃ k W, k ≤ (m + 1 + 1) * (2 + TT (7 - x)) ∧ (∀ g, f_X12_goRound_20 (g + k) (nI a) (nI x) (nI (ps p x)) U = f_X12_goRound_20 g (nI a) (nI (x - 1)) (nI (if x = 1 then ps p x else ps p (x - 1))) W) ∧ Fr [49, 50] [] [72, 73] [] U W ∧ (∀ i, i < x → gA W 72 i = nI (p i)) ∧ KpR (fun n q => P n q ∨ Ext ad p x c n q) W := fun hne hst => by
      obtain ⟨k, W, k1, k2, k3, k4, k5⟩ := ih (c + 1) p (sA U 72 x (nI (c + 1))) P h1 h7 (by omega) p0 h8 hi hg he (by omega) g71 gi gx (hK.fr f1s rfl rfl rfl)
      refine ⟨k + 1, W, ?_, fun g => ?_, f1.trans k3, k4, k5.iff (fun n q => ?_)⟩
      · rw [Nat.succ_mul (m + 1)]; omega
      · rw [← Nat.add_assoc, hst]; exact k2 g
      · constructor
        · rintro (z | z)
          · exact Or.inl z
          · exact Or.inr ⟨z.1, z.2.1, z.2.2.1, by have := z.2.2.2; omega⟩
        · rintro (z | z)
          · exact Or.inl z
          · have := hne n q z
            exact Or.inr ⟨z.1, z.2.1, z.2.2.1, by have := z.2.2.2; omega⟩
    by_cases c1 : (ps p x).testBit (c + 1) = true
    · rw [c1, kB_t] at q1
      refine skip (fun n q z e => ?_) (fun g => ?_)
      · obtain ⟨i, i1, i2⟩ := (ps_tb _ _ _).mp c1
        have := z.1.1.2.2.1 i x (by have := z.2.1; omega) z.2.1 (by rw [z.2.2.1 i i1, i2, e])
        omega
      · rw [f_X12_goRound_20]
        simp (disch := omega) only [k_let, Option.bind_some, ↓reduceIte, eq_self, true_or, or_true, n01_0, n01_1, kb_or, kb_0T, kb_0F, vn_0, vn_1, vn_k, nl_0, nl_1, nl_2, nl_3, nl_4, nl_5, nl_6, nl_7, nl_8, nl_9, nl_10, nl_11, nl_12, nl_13, nl_14, nl_15, nl_16, nl_20, nl_21, nl_22, nl_23, nl_24, nl_25, nl_26, nl_27, nl_28, nl_29, nl_30, nl_31, nl_32, nl_40, nl_41, nl_42, nl_43, nl_45, nl_47, nl_48, nl_50, nl_57, nl_59, nl_60, nl_61, nl_62, nl_63, nl_64, nl_91, nl_93, nl_94, nl_97, nl_98, nl_100, nl_110, nl_122, nl_130, nl_144, nl_160, nl_240, nl_241, nl_255, nl_256, nl_400, nl_800, nl_900, nl_999, nl_1000, nl_1001, nl_1024, nl_1103, nl_1928, nl_4321, nl_5560, nl_12345, nl_1000000, nl_1000003, nl_252645135, nl_858993459, nl_1431655765, nl_1000000000, leT, leF, ltT, ltF, eqT, eqF, kbT, nI_add, n_cl, n_neg, hx, gx, ↓b_of q1, f_X12_goRound_163]
    · rw [Bool.not_eq_true] at c1
      rw [c1, kB_f] at q1
      by_cases c2 : (ad (p (x - 1))).testBit (c + 1) = true
      · rw [c2, kB_t] at q2
        have up : ∀ i, i < x → upN p x (c + 1) i = p i := fun i hxi => if_neg (by omega)
        have ux : upN p x (c + 1) x = c + 1 := if_pos rfl
        have pp : ps (upN p x (c + 1)) x = ps p x := ps_congr up
        have pq : ps (upN p x (c + 1)) (x + 1) = ps p x ||| 2 ^ (c + 1) := by
          show ps (upN p x (c + 1)) x ||| 2 ^ upN p x (c + 1) x = _
          rw [pp, ux]
        have no : ∀ i, i < x → p i ≠ c + 1 := fun i hxi e => by
          have : (ps p x).testBit (c + 1) = true := (ps_tb _ _ _).mpr ⟨i, hxi, e⟩
          rw [c1] at this
          exact Bool.noConfusion this
        have h8' : ∀ i, i < x + 1 → upN p x (c + 1) i < 8 := fun i hxi => by
          by_cases q : i = x
          · rw [q, ux]; omega
          · rw [up i (by omega)]; exact h8 i (by omega)
        have hi' : ∀ i j, i < x + 1 → j < x + 1 → upN p x (c + 1) i = upN p x (c + 1) j → i = j := fun i j hxi hxj e => by
          by_cases q : i = x
          · by_cases q2 : j = x
            · omega
            · rw [q, ux, up j (by omega)] at e; exact absurd e.symm (no j (by omega))
          · by_cases q2 : j = x
            · rw [q2, ux, up i (by omega)] at e; exact absurd e (no i (by omega))
            · rw [up i (by omega), up j (by omega)] at e; exact hi i j (by omega) (by omega) e
        have hg' : ∀ i, 0 < i → i < x + 1 → a < upN p x (c + 1) i := fun i h0 hxi => by
          by_cases q : i = x
          · rw [q, ux]; omega
          · rw [up i (by omega)]; exact hg i h0 (by omega)
        have he' : ∀ i, i + 1 < x + 1 → eAd ad (upN p x (c + 1) i) (upN p x (c + 1) (i + 1)) = true := fun i hxi => by
          by_cases q : i + 1 = x
          · rw [up i (by omega), q, ux, show i = x - 1 by omega]; exact c2
          · rw [up i (by omega), up (i + 1) (by omega)]; exact he i (by omega)
        have p0' : upN p x (c + 1) 0 = a := (up 0 (by omega)).trans p0
        have pl' := ps_lt h8'
        have r72 : ∀ j, j < x + 1 → gA (sA U 72 x (nI (c + 1))) 72 j = nI (upN p x (c + 1) j) := fun j hj => by
          by_cases q : j = x
          · rw [q, gx, ux]
          · rw [gi j (by omega), up j (by omega)]
        have hK1 : KpR P (sA U 72 x (nI (c + 1))) := hK.fr f1s rfl rfl rfl
        have sx : nI x + nI 1 = nI (x + 1) := nI_add _ _
        have stA : ∃ S2, (∀ g, f_X12_goRound_20 (g + 1) (nI a) (nI x) (nI (ps p x)) U = f_X12_goRound_135 (f_X12_goRound_20 g) (nI a) (nI x) (nI (ps (upN p x (c + 1)) (x + 1))) (nI (c + 1)) S2) ∧ Fr [49, 50] [] [73] [] (sA U 72 x (nI (c + 1))) S2 ∧ KpR (fun n q => P n q ∨ (CyM (eAd ad) n q ∧ n = x + 1 ∧ ∀ i, i < x + 1 → q i = upN p x (c + 1) i)) S2 := by
          by_cases c3 : (ad (c + 1)).testBit a = true
          · rw [c3, kB_t] at q3
            obtain ⟨S2, s1, s2, s3⟩ := e_keep (p := upN p x (c + 1)) (n := x + 1) hK1 (by omega) (by omega) pl' r72
            refine ⟨S2, fun g => ?_, s2, s3.iff (fun n q => ⟨?_, ?_⟩)⟩
            · rw [pq] at s1 ⊢
              rw [f_X12_goRound_20]
              simp (disch := omega) only [k_let, Option.bind_some, ↓reduceIte, eq_self, true_or, or_true, n01_0, n01_1, kb_or, kb_0T, kb_0F, vn_0, vn_1, vn_k, nl_0, nl_1, nl_2, nl_3, nl_4, nl_5, nl_6, nl_7, nl_8, nl_9, nl_10, nl_11, nl_12, nl_13, nl_14, nl_15, nl_16, nl_20, nl_21, nl_22, nl_23, nl_24, nl_25, nl_26, nl_27, nl_28, nl_29, nl_30, nl_31, nl_32, nl_40, nl_41, nl_42, nl_43, nl_45, nl_47, nl_48, nl_50, nl_57, nl_59, nl_60, nl_61, nl_62, nl_63, nl_64, nl_91, nl_93, nl_94, nl_97, nl_98, nl_100, nl_110, nl_122, nl_130, nl_144, nl_160, nl_240, nl_241, nl_255, nl_256, nl_400, nl_800, nl_900, nl_999, nl_1000, nl_1001, nl_1024, nl_1103, nl_1928, nl_4321, nl_5560, nl_12345, nl_1000000, nl_1000003, nl_252645135, nl_858993459, nl_1431655765, nl_1000000000, leT, leF, ltT, ltF, eqT, eqF, kbT, nI_add, n_cl, n_neg, hx, gx, ↓b_of q1, em, gm, m1, ↓b_of q2, m3, ↓b_of q3, n_shl1, n_or, s1]
            · rintro (z | ⟨z1, z2⟩)
              · exact Or.inl z
              · subst z1
                refine Or.inr ⟨⟨⟨by omega, fun i hxi => by rw [z2 i hxi]; exact h8' i hxi, fun i j hxi hxj e => by rw [z2 i hxi, z2 j hxj] at e; exact hi' i j hxi hxj e, fun i hxi => by rw [z2 i (by omega), z2 (i + 1) hxi]; exact he' i hxi, ?_⟩, fun i h0 hxi => by rw [z2 0 (by omega), z2 i hxi, p0']; exact hg' i h0 hxi⟩, rfl, z2⟩
                rw [z2 (x + 1 - 1) (by omega), z2 0 (by omega), p0', show x + 1 - 1 = x by omega, ux]
                exact c3
            · rintro (z | ⟨z1, z2, z3⟩)
              · exact Or.inl z
              · exact Or.inr ⟨z2, z3⟩
          · refine ⟨sA U 72 x (nI (c + 1)), fun g => ?_, Fr.refl _, hK1.iff (fun n q => ⟨Or.inl, ?_⟩)⟩
            · rw [Bool.not_eq_true] at c3
              rw [c3, kB_f] at q3
              rw [pq, f_X12_goRound_20]
              simp (disch := omega) only [k_let, Option.bind_some, ↓reduceIte, eq_self, true_or, or_true, n01_0, n01_1, kb_or, kb_0T, kb_0F, vn_0, vn_1, vn_k, nl_0, nl_1, nl_2, nl_3, nl_4, nl_5, nl_6, nl_7, nl_8, nl_9, nl_10, nl_11, nl_12, nl_13, nl_14, nl_15, nl_16, nl_20, nl_21, nl_22, nl_23, nl_24, nl_25, nl_26, nl_27, nl_28, nl_29, nl_30, nl_31, nl_32, nl_40, nl_41, nl_42, nl_43, nl_45, nl_47, nl_48, nl_50, nl_57, nl_59, nl_60, nl_61, nl_62, nl_63, nl_64, nl_91, nl_93, nl_94, nl_97, nl_98, nl_100, nl_110, nl_122, nl_130, nl_144, nl_160, nl_240, nl_241, nl_255, nl_256, nl_400, nl_800, nl_900, nl_999, nl_1000, nl_1001, nl_1024, nl_1103, nl_1928, nl_4321, nl_5560, nl_12345, nl_1000000, nl_1000003, nl_252645135, nl_858993459, nl_1431655765, nl_1000000000, leT, leF, ltT, ltF, eqT, eqF, kbT, nI_add, n_cl, n_neg, hx, gx, ↓b_of q1, em, gm, m1, ↓b_of q2, m3, ↓b_of q3, n_shl1, n_or]
            · rintro (z | ⟨z1, z2, z3⟩)
              · exact z
              · subst z2
                have := z1.1.2.2.2.2
                rw [z3 (x + 1 - 1) (by omega), z3 0 (by omega), p0', show x + 1 - 1 = x by omega, ux] at this
                exact absurd this c3
        obtain ⟨S2, a1, a2, a3⟩ := stA
        have g71' : ∀ k, k < 8 → gA S2 71 k = nI (ad k) ∧ ad k < 256 := fun k hk => by rw [a2.A (k := 71) rfl]; exact g71 k hk
        have stB : ∃ k1 W2, k1 ≤ TT (7 - x) ∧ (∀ g, f_X12_goRound_135 (f_X12_goRound_20 (g + k1)) (nI a) (nI x) (nI (ps (upN p x (c + 1)) (x + 1))) (nI (c + 1)) S2 = f_X12_goRound_20 g (nI a) (nI x) (nI (ps p x)) W2) ∧ Fr [49, 50] [] [72, 73] [] S2 W2 ∧ (∀ i, i < x + 1 → gA W2 72 i = nI (upN p x (c + 1) i)) ∧ KpR (fun n q => (P n q ∨ (CyM (eAd ad) n q ∧ n = x + 1 ∧ ∀ i, i < x + 1 → q i = upN p x (c + 1) i)) ∨ Ext ad (upN p x (c + 1)) (x + 1) a n q) W2 := by
          by_cases c4 : x = 7
          · refine ⟨0, S2, Nat.zero_le _, fun g => ?_, Fr.refl _, fun i hxi => by rw [a2.A (k := 72) rfl]; exact r72 i hxi, a3.iff (fun n q => ⟨Or.inl, ?_⟩)⟩
            · have ea : nI (ps (upN p x (c + 1)) (x + 1)) &&& (nI (2 ^ (c + 1)) ^^^ iZ (-((1 : Nat) : Int))) = nI (ps p x) := by
                rw [n_an (by omega)]
                have := an_ps h8' hi'
                rw [ux] at this
                rw [this, pp]
              unfold f_X12_goRound_135 f_X12_goRound_163
              rw [Nat.add_zero]
              simp (disch := omega) only [k_let, Option.bind_some, ↓reduceIte, eq_self, true_or, or_true, n01_0, n01_1, kb_or, kb_0T, kb_0F, vn_0, vn_1, vn_k, nl_0, nl_1, nl_2, nl_3, nl_4, nl_5, nl_6, nl_7, nl_8, nl_9, nl_10, nl_11, nl_12, nl_13, nl_14, nl_15, nl_16, nl_20, nl_21, nl_22, nl_23, nl_24, nl_25, nl_26, nl_27, nl_28, nl_29, nl_30, nl_31, nl_32, nl_40, nl_41, nl_42, nl_43, nl_45, nl_47, nl_48, nl_50, nl_57, nl_59, nl_60, nl_61, nl_62, nl_63, nl_64, nl_91, nl_93, nl_94, nl_97, nl_98, nl_100, nl_110, nl_122, nl_130, nl_144, nl_160, nl_240, nl_241, nl_255, nl_256, nl_400, nl_800, nl_900, nl_999, nl_1000, nl_1001, nl_1024, nl_1103, nl_1928, nl_4321, nl_5560, nl_12345, nl_1000000, nl_1000003, nl_252645135, nl_858993459, nl_1431655765, nl_1000000000, leT, leF, ltT, ltF, eqT, eqF, kbT, n_neg, n_shl1, ea]
            · rintro (z | z)
              · exact z
              · have := z.1.1.n8
                have := z.2.1
                omega
          · have f3 : Fr [49, 50] [] [72, 73] [] S2 (sA S2 72 (x + 1) (nI a)) := (Fr.refl S2).sA rfl _ _
            have f3s : Fr [] [] [72] [] S2 (sA S2 72 (x + 1) (nI a)) := (Fr.refl S2).sA rfl _ _
            obtain ⟨k1, W2, b1, b2, b3, b4, b5⟩ := hCh (by omega) (7 - a) a (upN p x (c + 1)) (sA S2 72 (x + 1) (nI a)) _ (by omega) (by omega) (by omega) p0' h8' hi' hg' he' (Nat.le_refl _) (fun k hk => by rw [f3.A (k := 71) rfl]; exact g71' k hk) (fun i hxi => by rw [s_AA, u_n (by omega), a2.A (k := 72) rfl]; exact r72 i hxi) (by rw [s_AA, u_s]) (a3.fr f3s rfl rfl rfl)
            refine ⟨k1, W2, ?_, fun g => ?_, f3.trans b3, b4, b5⟩
            · have e7 : TT (7 - x) = 8 * (2 + TT (7 - (x + 1))) := by rw [show 7 - x = (7 - (x + 1)) + 1 by omega]; rfl
              rw [e7]
              exact Nat.le_trans b1 (Nat.mul_le_mul_right _ (by omega))
            · have := b2 g
              rw [if_neg (by omega), show x + 1 - 1 = x by omega, pp] at this
              rw [← this]
              unfold f_X12_goRound_135 f_X12_goRound_163
              simp (disch := omega) only [k_let, Option.bind_some, ↓reduceIte, eq_self, true_or, or_true, n01_0, n01_1, kb_or, kb_0T, kb_0F, vn_0, vn_1, vn_k, nl_0, nl_1, nl_2, nl_3, nl_4, nl_5, nl_6, nl_7, nl_8, nl_9, nl_10, nl_11, nl_12, nl_13, nl_14, nl_15, nl_16, nl_20, nl_21, nl_22, nl_23, nl_24, nl_25, nl_26, nl_27, nl_28, nl_29, nl_30, nl_31, nl_32, nl_40, nl_41, nl_42, nl_43, nl_45, nl_47, nl_48, nl_50, nl_57, nl_59, nl_60, nl_61, nl_62, nl_63, nl_64, nl_91, nl_93, nl_94, nl_97, nl_98, nl_100, nl_110, nl_122, nl_130, nl_144, nl_160, nl_240, nl_241, nl_255, nl_256, nl_400, nl_800, nl_900, nl_999, nl_1000, nl_1001, nl_1024, nl_1103, nl_1928, nl_4321, nl_5560, nl_12345, nl_1000000, nl_1000003, nl_252645135, nl_858993459, nl_1431655765, nl_1000000000, leT, leF, ltT, ltF, eqT, eqF, kbT, nI_add, n_cl]
        obtain ⟨k1, W2, b1, b2, b3, b4, b5⟩ := stB
        have fW : Fr [49, 50] [] [72, 73] [] U W2 := f1.trans ((a2.mono rfl rfl rfl rfl : Fr [49, 50] [] [72, 73] [] _ S2).trans b3)
        obtain ⟨k, W, k1', k2, k3, k4, k5⟩ := ih (c + 1) p W2 _ h1 h7 (by omega) p0 h8 hi hg he (by omega) (fun k hk => by rw [fW.A (k := 71) rfl]; exact h71 k hk) (fun i hxi => by rw [b4 i (by omega), up i hxi]) (by rw [b4 x (by omega), ux]) b5
        refine ⟨k + k1 + 1, W, ?_, fun g => ?_, fW.trans k3, k4, k5.iff (fun n q => ⟨?_, ?_⟩)⟩
        · rw [Nat.succ_mul (m + 1)]; omega
        · rw [show g + (k + k1 + 1) = (g + k) + k1 + 1 by omega, a1, b2]; exact k2 g
        · rintro (((z | ⟨z1, z2, z3⟩) | z) | z)
          · exact Or.inl z
          · exact Or.inr ⟨z1, by omega, fun i hxi => by rw [z3 i (by omega), up i hxi], by rw [z3 x (by omega), ux]; omega⟩
          · exact Or.inr ⟨z.1, by have := z.2.1; omega, fun i hxi => by rw [z.2.2.1 i (by omega), up i hxi], by rw [z.2.2.1 x (by omega), ux]; omega⟩
          · exact Or.inr ⟨z.1, z.2.1, z.2.2.1, by have := z.2.2.2; omega⟩
        · rintro (z | z)
          · exact Or.inl (Or.inl (Or.inl z))
          · by_cases e : q x = c + 1
            · have ag : ∀ i, i < x + 1 → q i = upN p x (c + 1) i := fun i hxi => by
                by_cases e2 : i = x
                · rw [e2, ux]; exact e
                · rw [up i (by omega)]; exact z.2.2.1 i (by omega)
              by_cases e3 : n = x + 1
              · exact Or.inl (Or.inl (Or.inr ⟨z.1, e3, ag⟩))
              · have hx1 : x + 1 < n := by have := z.2.1; omega
                refine Or.inl (Or.inr ⟨z.1, hx1, ag, ?_⟩)
                have := z.1.2 (x + 1) (by omega) hx1
                rw [ag 0 (by omega), p0'] at this
                exact this
            · exact Or.inr ⟨z.1, z.2.1, z.2.2.1, by have := z.2.2.2; omega⟩
      · refine skip (fun n q z e => ?_) (fun g => ?_)
        · have := z.1.1.2.2.2.1 (x - 1) (by have := z.2.1; omega)
          rw [show x - 1 + 1 = x by omega, e, z.2.2.1 (x - 1) (by omega)] at this
          exact c2 this
        · rw [Bool.not_eq_true] at c2
          rw [c2, kB_f] at q2
          rw [f_X12_goRound_20]
          simp (disch := omega) only [k_let, Option.bind_some, ↓reduceIte, eq_self, true_or, or_true, n01_0, n01_1, kb_or, kb_0T, kb_0F, vn_0, vn_1, vn_k, nl_0, nl_1, nl_2, nl_3, nl_4, nl_5, nl_6, nl_7, nl_8, nl_9, nl_10, nl_11, nl_12, nl_13, nl_14, nl_15, nl_16, nl_20, nl_21, nl_22, nl_23, nl_24, nl_25, nl_26, nl_27, nl_28, nl_29, nl_30, nl_31, nl_32, nl_40, nl_41, nl_42, nl_43, nl_45, nl_47, nl_48, nl_50, nl_57, nl_59, nl_60, nl_61, nl_62, nl_63, nl_64, nl_91, nl_93, nl_94, nl_97, nl_98, nl_100, nl_110, nl_122, nl_130, nl_144, nl_160, nl_240, nl_241, nl_255, nl_256, nl_400, nl_800, nl_900, nl_999, nl_1000, nl_1001, nl_1024, nl_1103, nl_1928, nl_4321, nl_5560, nl_12345, nl_1000000, nl_1000003, nl_252645135, nl_858993459, nl_1431655765, nl_1000000000, leT, leF, ltT, ltF, eqT, eqF, kbT, nI_add, n_cl, n_neg, hx, gx, ↓b_of q1, em, gm, m1, ↓b_of q2, f_X12_goRound_163]
