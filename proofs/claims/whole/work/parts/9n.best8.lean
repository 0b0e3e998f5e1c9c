/-! part 9n: best: the class finds it -/
def Adm (r : Nat → Int32) (V : Nat → Vd) (h M B : Nat) (c : Nat → Nat) : Prop := (∀ e, c e ≤ cap r V h e) ∧ mi r c ≤ M ∧ pc16 (bs (us r c) 8) ≤ B
def Bst (r : Nat → Int32) (V : Nat → Vd) (h M B : Nat) (c : Nat → Nat) : Prop := Adm r V h M B c ∧ ∀ c', Adm r V h M B c' → gv r V c' (us r c') < gv r V c (us r c) ∨ (gv r V c' (us r c') = gv r V c (us r c) ∧ dg r c ≤ dg r c')
theorem us_8 {r : Nat → Int32} (w : Wf r) {c : Nat → Nat} {k : Nat} (h : us r c k = true) : k < 8 := by
  obtain ⟨d, a, b, -⟩ := us_iff.mp h
  rw [← b]; exact (w.ow a).2
theorem us_cap {r : Nat → Int32} {V : Nat → Vd} {h : Nat} {c : Nat → Nat} (hc : ∀ e, c e ≤ cap r V h e) {k : Nat} (hk : us r c k = true) : us r (cap r V h) k = true := by
  obtain ⟨d, a, b, e⟩ := us_iff.mp hk
  exact us_iff.mpr ⟨d, a, b, by have := hc d; omega⟩
theorem bst_of {r : Nat → Int32} {V : Nat → Vd} (w : Wf r) {h M B top most : Nat} {en : Bool} (he : en = decide (pc16 (bs (us r (cap r V h)) 8) ≤ B)) (ht : top = if en = true then 0 else B) (hm : most = min M (mi r (cap r V h))) {G : Int} {D : Nat} (hx : Mx r V (Bs r V h (us r (cap r V h)) en 8 top most) G D) : ∃ c, Bst r V h M B c ∧ D = dg r c := by
  obtain ⟨⟨c, F, ⟨a1, a2, a3, a4⟩, a5, a6⟩, a7⟩ := hx
  have hc : ∀ e, c e ≤ cap r V h e := fun e => by
    have := a3 e
    by_cases z : F (dOw r e) = true
    · rw [if_pos z] at this; exact this
    · rw [if_neg z] at this; omega
  have uF : ∀ k, us r c k = true → F k = true := fun k hk => by
    obtain ⟨d, b1, b2, b3⟩ := us_iff.mp hk
    have := a3 d
    rw [b2] at this
    cases z : F k
    · rw [z, if_neg Bool.false_ne_true] at this; omega
    · rfl
  have pcm := fun (p q : Nat → Bool) (hpq : ∀ k, k < 8 → p k = true → q k = true) => (pc_mono _ (bs_256 p) _ (bs_256 q) (bs_mask p q hpq)).1
  have hmM : most ≤ M := by omega
  have uC : Bs r V h (us r (cap r V h)) en 8 top most c (us r c) := by
    refine ⟨fun j hj => ⟨us_8 w hj, us_cap hc hj⟩, ?_, fun e => ?_, a4⟩
    · rcases a2 with z | z
      · exact Or.inl z
      · exact Or.inr (Nat.le_trans (pcm _ _ (fun k _ => uF k)) z)
    · by_cases z : c e = 0
      · rw [z]; exact Nat.zero_le _
      · have en' : e < nD r := by
          by_cases q : e < nD r
          · exact q
          · have : cap r V h e = 0 := if_neg (fun t => q t.1)
            have := hc e
            omega
        rw [if_pos (us_iff.mpr ⟨e, en', rfl, by omega⟩)]
        exact hc e
  have csl := cs_le (fun k (_ : k < 8) => uF k)
  have gE : gv r V c (us r c) = G := by
    have := a7 c _ uC
    unfold gv at *
    omega
  refine ⟨c, ⟨⟨hc, Nat.le_trans a4 hmM, ?_⟩, fun c' q => ?_⟩, a6.symm⟩
  · rcases uC.2.1 with z | z
    · rw [z] at he
      exact Nat.le_trans (pcm _ _ (fun k _ => us_cap hc)) (of_decide_eq_true he.symm)
    · cases e : en
      · rw [e, if_neg Bool.false_ne_true] at ht; omega
      · rw [e] at he
        exact Nat.le_trans (pcm _ _ (fun k _ => us_cap hc)) (of_decide_eq_true he.symm)
  · obtain ⟨b1, b2, b3⟩ := q
    have := a7 c' (us r c') ⟨fun j hj => ⟨us_8 w hj, us_cap b1 hj⟩, ?_, fun e => ?_, ?_⟩
    · rw [gE, a6]; exact this
    · cases e : en
      · rw [e, if_neg Bool.false_ne_true] at ht
        exact Or.inr (by omega)
      · exact Or.inl rfl
    · by_cases z : c' e = 0
      · rw [z]; exact Nat.zero_le _
      · have en' : e < nD r := by
          by_cases q : e < nD r
          · exact q
          · have : cap r V h e = 0 := if_neg (fun t => q t.1)
            have := b1 e
            omega
        rw [if_pos (us_iff.mpr ⟨e, en', rfl, by omega⟩)]
        exact b1 e
    · have : mi r c' ≤ mi r (cap r V h) := sm_le2 (fun d _ => Nat.mul_le_mul_right _ (b1 d))
      omega
theorem o_id (x : Option St) : x.bind (fun q => some q) = x := by cases x <;> rfl
theorem l_150 {r : Nat → Int32} {V : Nat → Vd} {S : St} (hQ : Qc r V S) (hP : Pl S) {h o most top : Nat} {pl : Nat → Bool} {en : Bool} (hh : h < 8) (hm : most ≤ 240) (ht : top ≤ 7) (hte : en = true → top = 0) (h20 : gI S 20 = nI h) (h21 : gI S 21 = nI most) : ∀ (k f o : Nat) (U : St), o + k = 8 → k < f → Fr [] [] [] [33, 34, 35, 36] S U → (∀ L, L ≤ top → ∀ m, m ≤ most → En r V U 33 34 (L * 241 + m) (Bs r V h pl en o L m)) →
    ∃ W, f_X2_find_150 f (nI (bs pl 8)) (kB en) (nI top) (nI o) U = f_X2_read (gL W 34 (top * 241 + most)) W ∧ Fr [] [] [] [33, 34, 35, 36] S W ∧ (∀ L, L ≤ top → ∀ m, m ≤ most → En r V W 33 34 (L * 241 + m) (Bs r V h pl en 8 L m)) := by
  intro k
  induction k with
  | zero =>
    intro f o U ho hf hF hL
    obtain ⟨f, rfl⟩ : ∃ g, f = g + 1 := ⟨f - 1, by omega⟩
    have : o = 8 := by omega
    subst this
    have k21 : gI U 21 = nI most := (hF.I (k := 21) rfl).trans h21
    have pp := e_place ht hm U
    refine ⟨U, ?_, hF, hL⟩
    rw [f_X2_find_150]
    simp (disch := omega) only [k_let, Option.bind_some, ↓reduceIte, eq_self, true_or, or_true, n01_0, n01_1, kb_or, kb_0T, kb_0F, vn_0, vn_1, vn_k, nl_0, nl_1, nl_2, nl_3, nl_4, nl_5, nl_6, nl_7, nl_8, nl_9, nl_10, nl_11, nl_12, nl_13, nl_14, nl_15, nl_16, nl_20, nl_21, nl_22, nl_23, nl_24, nl_25, nl_26, nl_27, nl_28, nl_29, nl_30, nl_31, nl_32, nl_40, nl_41, nl_42, nl_43, nl_45, nl_47, nl_48, nl_50, nl_57, nl_59, nl_60, nl_61, nl_62, nl_63, nl_64, nl_91, nl_93, nl_94, nl_97, nl_98, nl_100, nl_110, nl_122, nl_130, nl_144, nl_160, nl_240, nl_241, nl_255, nl_256, nl_400, nl_800, nl_900, nl_999, nl_1000, nl_1001, nl_1024, nl_1103, nl_1928, nl_4321, nl_5560, nl_12345, nl_1000000, nl_1000003, nl_252645135, nl_858993459, nl_1431655765, nl_1000000000, nI_add, pk_mul, n_sub, n_neg, n_cl, leT, leF, ltT, ltF, eqT, eqF, kbT, s_II, s_In, s_IJ, s_IA, s_IL, s_IR, s_IC, s_JI, s_JJ, s_Jn, s_JA, s_JL, s_JR, s_JC, s_AI, s_AJ, s_AA, s_An, s_AL, s_AR, s_AC, s_LI, s_LJ, s_LA, s_LL, s_Ln, s_LR, s_LC, k21, ↓b_of pp, o_id]
  | succ k ih =>
    intro f o U ho hf hF hL
    obtain ⟨f, rfl⟩ : ∃ g, f = g + 1 := ⟨f - 1, by omega⟩
    have ho8 : o < 8 := by omega
    have b256 := bs_256 pl
    have tb : (bs pl 8).testBit o = pl o := by rw [bs_tb, decide_eq_true ho8, Bool.true_and]
    rw [tb_div] at tb
    have m2 := Nat.mod_lt (bs pl 8 / 2 ^ o) (show 0 < 2 by decide)
    by_cases c : pl o = true
    · rw [c, decide_eq_true_eq] at tb
      have step : ∃ Y, f_X2_find_171 (f_X2_find_150 f) FU (nI (bs pl 8)) (kB en) (nI top) (nI o) (nI top) U = f_X2_find_150 f (nI (bs pl 8)) (kB en) (nI top) (nI (o + 1)) Y ∧ Fr [] [] [] [33, 34, 35, 36] S Y ∧ (∀ L, L ≤ top → ∀ m, m ≤ most → En r V Y 33 34 (L * 241 + m) (Bs r V h pl en (o + 1) L m)) := by
        cases e : en
        · rw [e] at hL
          exact l_171 hQ hP hh ho8 c hm ht h20 h21 _ _ top FU U (Nat.le_refl _) (FU_ge (by omega)) hF (fun L hLt m hmm => by
            rw [if_neg (by omega)]; exact hL L hLt m hmm)
        · have t0 := hte e
          subst t0
          rw [e] at hL
          obtain ⟨g, hg⟩ : ∃ g, FU = g + 2 := ⟨FU - 2, by have := FU_ge (m := 2) (by decide); omega⟩
          rw [hg]
          obtain ⟨Y, y1, y2, y3⟩ := l_171e hQ hP hh ho8 c hm h20 h21 (f_X2_find_150 f) (nI (bs pl 8)) g U hF (fun m hmm => hL 0 (Nat.le_refl _) m hmm)
          refine ⟨Y, y1, y2, fun L hLt m hmm => ?_⟩
          have : L = 0 := by omega
          subst this
          exact y3 m hmm
      obtain ⟨Y, y1, y2, y3⟩ := step
      obtain ⟨W, w1, w2, w3⟩ := ih f (o + 1) Y (by omega) (by omega) y2 y3
      refine ⟨W, ?_, w2, w3⟩
      rw [← w1, ← y1, f_X2_find_150]
      simp (disch := omega) only [k_let, Option.bind_some, ↓reduceIte, eq_self, true_or, or_true, n01_0, n01_1, kb_or, kb_0T, kb_0F, vn_0, vn_1, vn_k, nl_0, nl_1, nl_2, nl_3, nl_4, nl_5, nl_6, nl_7, nl_8, nl_9, nl_10, nl_11, nl_12, nl_13, nl_14, nl_15, nl_16, nl_20, nl_21, nl_22, nl_23, nl_24, nl_25, nl_26, nl_27, nl_28, nl_29, nl_30, nl_31, nl_32, nl_40, nl_41, nl_42, nl_43, nl_45, nl_47, nl_48, nl_50, nl_57, nl_59, nl_60, nl_61, nl_62, nl_63, nl_64, nl_91, nl_93, nl_94, nl_97, nl_98, nl_100, nl_110, nl_122, nl_130, nl_144, nl_160, nl_240, nl_241, nl_255, nl_256, nl_400, nl_800, nl_900, nl_999, nl_1000, nl_1001, nl_1024, nl_1103, nl_1928, nl_4321, nl_5560, nl_12345, nl_1000000, nl_1000003, nl_252645135, nl_858993459, nl_1431655765, nl_1000000000, nI_add, pk_mul, n_sub, n_neg, n_cl, leT, leF, ltT, ltF, eqT, eqF, kbT, s_II, s_In, s_IJ, s_IA, s_IL, s_IR, s_IC, s_JI, s_JJ, s_Jn, s_JA, s_JL, s_JR, s_JC, s_AI, s_AJ, s_AA, s_An, s_AL, s_AR, s_AC, s_LI, s_LJ, s_LA, s_LL, s_Ln, s_LR, s_LC, n_shr, n_and1, tb]
    · have c' : pl o = false := by simpa using c
      rw [c', decide_eq_false_iff_not] at tb
      have tb0 : bs pl 8 / 2 ^ o % 2 = 0 := by omega
      obtain ⟨W, w1, w2, w3⟩ := ih f (o + 1) U (by omega) (by omega) hF (fun L hLt m hmm => (hL L hLt m hmm).iff (fun c F => Bs.skip c' c F))
      refine ⟨W, ?_, w2, w3⟩
      rw [← w1, f_X2_find_150]
      simp (disch := omega) only [k_let, Option.bind_some, ↓reduceIte, eq_self, true_or, or_true, n01_0, n01_1, kb_or, kb_0T, kb_0F, vn_0, vn_1, vn_k, nl_0, nl_1, nl_2, nl_3, nl_4, nl_5, nl_6, nl_7, nl_8, nl_9, nl_10, nl_11, nl_12, nl_13, nl_14, nl_15, nl_16, nl_20, nl_21, nl_22, nl_23, nl_24, nl_25, nl_26, nl_27, nl_28, nl_29, nl_30, nl_31, nl_32, nl_40, nl_41, nl_42, nl_43, nl_45, nl_47, nl_48, nl_50, nl_57, nl_59, nl_60, nl_61, nl_62, nl_63, nl_64, nl_91, nl_93, nl_94, nl_97, nl_98, nl_100, nl_110, nl_122, nl_130, nl_144, nl_160, nl_240, nl_241, nl_255, nl_256, nl_400, nl_800, nl_900, nl_999, nl_1000, nl_1001, nl_1024, nl_1103, nl_1928, nl_4321, nl_5560, nl_12345, nl_1000000, nl_1000003, nl_252645135, nl_858993459, nl_1431655765, nl_1000000000, nI_add, pk_mul, n_sub, n_neg, n_cl, leT, leF, ltT, ltF, eqT, eqF, kbT, s_II, s_In, s_IJ, s_IA, s_IL, s_IR, s_IC, s_JI, s_JJ, s_Jn, s_JA, s_JL, s_JR, s_JC, s_AI, s_AJ, s_AA, s_An, s_AL, s_AR, s_AC, s_LI, s_LJ, s_LA, s_LL, s_Ln, s_LR, s_LC, n_shr, n_and1, tb0, f_X2_find_214]
