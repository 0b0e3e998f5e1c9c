/-! part b0: become -/
def rwL : List (Nat × Nat) := [(1, 6), (3, 16), (4, 16), (5, 16), (6, 16), (7, 16), (9, 8), (10, 8), (11, 10), (12, 10), (13, 12), (14, 12)]
theorem s_FI (S : St) (k : Nat) (f : Nat → Int32) (j : Nat) : gI (sF S k f) j = gI S j := rfl
theorem s_FJ (S : St) (k : Nat) (f : Nat → Int32) (j : Nat) : gJ (sF S k f) j = gJ S j := rfl
theorem s_FL (S : St) (k : Nat) (f : Nat → Int32) (j : Nat) : gL (sF S k f) j = gL S j := rfl
theorem s_FR (S : St) (k : Nat) (f : Nat → Int32) (j : Nat) : gR (sF S k f) j = gR S j := rfl
theorem s_FC (S : St) (k : Nat) (f : Nat → Int32) : gC (sF S k f) = gC S := rfl
theorem s_Fn {S : St} {k : Nat} {f : Nat → Int32} {j : Nat} (h : j ≠ k) : gA (sF S k f) j = gA S j := if_neg h
theorem cpy0 {f g : Nat → Int32} {n i : Nat} (h : i < n) : va_cpy f g 0 0 n i = f i := by
  unfold va_cpy
  rw [if_pos ⟨Nat.zero_le i, by omega⟩, Nat.sub_zero, Nat.zero_add]
/-- W is S, but village a has become what village b is -/
def Bc (ai bi ar br av bv : Nat) (S W : St) : Prop :=
  (∀ i, i < 8 → gI W (ai + i) = gI S (bi + i)) ∧ (∀ i, ¬ (ai ≤ i ∧ i < ai + 8) → gI W i = gI S i) ∧ (∀ k, gJ W k = gJ S k) ∧ (∀ q, q ∈ rwL → ∀ i, i < q.2 → gA W (ar + q.1) i = gA S (br + q.1) i) ∧ (∀ j, ¬ (ar ≤ j ∧ j < ar + 15) → gA W j = gA S j) ∧ (∀ k, gL W k = gL S k) ∧ (∀ i, i < 6 → gR W av i = gR S bv i) ∧ (∀ w, w ≠ av → gR W w = gR S w) ∧ gC W = gC S
/-- only the law refs of village v have changed -/
def Fq (v : Nat) (S T : St) : Prop := (∀ k, gI T k = gI S k) ∧ (∀ k, gJ T k = gJ S k) ∧ (∀ k, gA T k = gA S k) ∧ (∀ k, gL T k = gL S k) ∧ (∀ w, w ≠ v → gR T w = gR S w) ∧ gC T = gC S
theorem Fq.refl (v : Nat) (S : St) : Fq v S S := ⟨fun _ => rfl, fun _ => rfl, fun _ => rfl, fun _ => rfl, fun _ _ => rfl, rfl⟩
theorem Fq.sR {v : Nat} {S T : St} (h : Fq v S T) (i x : Nat) : Fq v S (sR T v i x) := ⟨h.1, h.2.1, h.2.2.1, h.2.2.2.1, fun w hw => (show k_up T.2.2.2.2.1 v _ w = _ from if_neg hw).trans (h.2.2.2.2.1 w hw), h.2.2.2.2.2⟩
theorem Rv.cpy {I I' : Nat → Int32} {A A' : Nat → Nat → Int32} {L L' : Nat → Nat} {C : List (Nat × (Nat → Int32))} {r : Nat → Int32} (h : Rv I A L C r) (hI : ∀ i, i < 8 → I' i = I i) (hA : ∀ q, q ∈ rwL → ∀ i, i < q.2 → A' q.1 i = A q.1 i) (hL : ∀ l, l < 6 → L' l = L l) : Rv I' A' L' C r := by
  obtain ⟨w, ⟨c0, c1, c2, c3, c4, c5, c6, c7⟩, c8, c9, c10, c11, c12, c13⟩ := h
  have w0 := w.t6
  have w1 := w.n16
  have w2 := w.2.2.1.2
  have w4 := w.2.2.2.2.1.2
  have w5 := w.2.2.2.2.2.1.2
  have w6 := w.2.2.2.2.2.2.1.2
  have hn : nD r = rN r 1 := rfl
  refine ⟨w, ⟨(hI 0 (by decide)).trans c0, (hI 1 (by decide)).trans c1, (hI 2 (by decide)).trans c2, (hI 3 (by decide)).trans c3, (hI 4 (by decide)).trans c4, (hI 5 (by decide)).trans c5, (hI 6 (by decide)).trans c6, (hI 7 (by decide)).trans c7⟩, fun i hi => ?_, fun d hd => ?_, fun d hd => ?_, fun d hd => ?_, fun d hd => ?_, fun l hl => ?_⟩
  · exact (hA (1, 6) (by decide) i (by show i < 6; omega)).trans (c8 i hi)
  · obtain ⟨a, b, c, e, f⟩ := c9 d hd
    exact ⟨(hA (3, 16) (by decide) d (by show d < 16; omega)).trans a, (hA (4, 16) (by decide) d (by show d < 16; omega)).trans b, (hA (5, 16) (by decide) d (by show d < 16; omega)).trans c, (hA (6, 16) (by decide) d (by show d < 16; omega)).trans e, (hA (7, 16) (by decide) d (by show d < 16; omega)).trans f⟩
  · obtain ⟨a, b⟩ := c10 d hd
    exact ⟨(hA (9, 8) (by decide) d (by show d < 8; omega)).trans a, (hA (10, 8) (by decide) d (by show d < 8; omega)).trans b⟩
  · obtain ⟨a, b⟩ := c11 d hd
    exact ⟨(hA (11, 10) (by decide) d (by show d < 10; omega)).trans a, (hA (12, 10) (by decide) d (by show d < 10; omega)).trans b⟩
  · obtain ⟨a, b⟩ := c12 d hd
    exact ⟨(hA (13, 12) (by decide) d (by show d < 12; omega)).trans a, (hA (14, 12) (by decide) d (by show d < 12; omega)).trans b⟩
  · rw [hL l (by omega)]
    exact c13 l hl
theorem bd_s0 {S : St} (hE : ¬ gR S 3 0 = 0) : f_X1_become_o83_a2 S = some (sI (sF (sF (sF (sF (sF S 84 (va_cpy (gA S 3) (gA S 84) 0 0 16)) 85 (va_cpy (gA S 4) (gA S 85) 0 0 16)) 86 (va_cpy (gA S 5) (gA S 86) 0 0 16)) 87 (va_cpy (gA S 6) (gA S 87) 0 0 16)) 88 (va_cpy (gA S 7) (gA S 88) 0 0 16)) 56 (gI S 1)) := by
  unfold f_X1_become_o83_a2
  simp only [k_let, s_FR, s_IR, hE, not_false_eq_true, ↓reduceIte]
  rfl
theorem bt_s0 {U : St} (hE : ¬ gR U 3 0 = 0) (f : Nat) : f_X10_become_o81_a0_44 (f + 1) (nI 6) U = some (sI (sF (sF (sI (sF (sF (sI (sF (sF (sI (sI U 58 (gI U 3)) 59 (gI U 4)) 90 (va_cpy (gA U 9) (gA U 90) 0 0 8)) 91 (va_cpy (gA U 10) (gA U 91) 0 0 8)) 60 (gI U 5)) 92 (va_cpy (gA U 11) (gA U 92) 0 0 10)) 93 (va_cpy (gA U 12) (gA U 93) 0 0 10)) 61 (gI U 6)) 94 (va_cpy (gA U 13) (gA U 94) 0 0 12)) 95 (va_cpy (gA U 14) (gA U 95) 0 0 12)) 62 (gI U 7)) := by
  rw [f_X10_become_o81_a0_44, if_pos (show (6 : Int32) ≤ nI 6 by decide)]
  simp only [k_let, s_FR, s_IR, hE, not_false_eq_true, ↓reduceIte]
  rfl
theorem bl_s0 {S : St} (hE : ¬ gR S 3 0 = 0) (hK : ∀ i, i < 6 → gR S 0 i ≤ (gC S).length) : ∀ (m f l : Nat) (U : St), l + m = 6 → m < f → Fq 1 S U → (∀ i, i < l → gR U 1 i = gR S 0 i) → ∃ W f', f_X10_become_o81_a0_44 f (nI l) U = f_X10_become_o81_a0_44 (f' + 1) (nI 6) W ∧ Fq 1 S W ∧ ∀ i, i < 6 → gR W 1 i = gR S 0 i := by
  intro m
  induction m with
  | zero =>
    intro f l U hl hf hF hR
    have : l = 6 := by omega
    subst this
    exact ⟨U, f - 1, by rw [show f - 1 + 1 = f by omega], hF, hR⟩
  | succ m ih =>
    intro f l U hl hf hF hR
    obtain ⟨f, rfl⟩ : ∃ g, f = g + 1 := ⟨f - 1, by omega⟩
    have hU : ¬ gR U 3 0 = 0 := by rw [hF.2.2.2.2.1 3 (by decide)]; exact hE
    have gb : gR U 0 l = gR S 0 l := by rw [hF.2.2.2.2.1 0 (by decide)]
    have kl := hK l (by omega)
    have step : ∃ U', f_X10_become_o81_a0_44 (f + 1) (nI l) U = f_X10_become_o81_a0_44 f (nI (l + 1)) U' ∧ Fq 1 S U' ∧ ∀ i, i < l + 1 → gR U' 1 i = gR S 0 i := by
      refine ⟨sR U 1 l (gR S 0 l), ?_, hF.sR _ _, fun i hi => ?_⟩
      · by_cases c : gR S 0 l = 0
        · rw [f_X10_become_o81_a0_44]
          simp (disch := omega) only [k_let, Option.bind_some, ↓reduceIte, eq_self, true_or, or_true, n01_0, n01_1, kb_or, kb_0T, kb_0F, vn_0, vn_1, vn_k, nl_0, nl_1, nl_2, nl_3, nl_4, nl_5, nl_6, nl_7, nl_8, nl_9, nl_10, nl_11, nl_12, nl_13, nl_14, nl_15, nl_16, nl_20, nl_21, nl_22, nl_23, nl_24, nl_25, nl_26, nl_27, nl_28, nl_29, nl_30, nl_31, nl_32, nl_40, nl_41, nl_42, nl_43, nl_45, nl_47, nl_48, nl_50, nl_57, nl_59, nl_60, nl_61, nl_62, nl_63, nl_64, nl_91, nl_93, nl_94, nl_97, nl_98, nl_100, nl_110, nl_122, nl_130, nl_144, nl_160, nl_240, nl_241, nl_255, nl_256, nl_400, nl_800, nl_900, nl_999, nl_1000, nl_1001, nl_1024, nl_1103, nl_1928, nl_4321, nl_5560, nl_12345, nl_1000000, nl_1000003, nl_252645135, nl_858993459, nl_1431655765, nl_1000000000, nI_add, pk_mul, n_sub, n_neg, n_cl, leT, leF, ltT, ltF, eqT, eqF, kbT, s_II, s_In, s_IJ, s_IA, s_IL, s_IR, s_IC, s_JI, s_JJ, s_Jn, s_JA, s_JL, s_JR, s_JC, s_AI, s_AJ, s_AA, s_An, s_AL, s_AR, s_AC, s_LI, s_LJ, s_LA, s_LL, s_Ln, s_LR, s_LC, gb, c, hU, not_false_eq_true]
        · have kc : k_code U (gR S 0 l - 1) = some ((gC S)[gR S 0 l - 1]'(by omega)) := by
            show (gC U)[gR S 0 l - 1]? = _
            rw [hF.2.2.2.2.2, List.getElem?_eq_getElem]
          rw [f_X10_become_o81_a0_44]
          simp (disch := omega) only [k_let, Option.bind_some, ↓reduceIte, eq_self, true_or, or_true, n01_0, n01_1, kb_or, kb_0T, kb_0F, vn_0, vn_1, vn_k, nl_0, nl_1, nl_2, nl_3, nl_4, nl_5, nl_6, nl_7, nl_8, nl_9, nl_10, nl_11, nl_12, nl_13, nl_14, nl_15, nl_16, nl_20, nl_21, nl_22, nl_23, nl_24, nl_25, nl_26, nl_27, nl_28, nl_29, nl_30, nl_31, nl_32, nl_40, nl_41, nl_42, nl_43, nl_45, nl_47, nl_48, nl_50, nl_57, nl_59, nl_60, nl_61, nl_62, nl_63, nl_64, nl_91, nl_93, nl_94, nl_97, nl_98, nl_100, nl_110, nl_122, nl_130, nl_144, nl_160, nl_240, nl_241, nl_255, nl_256, nl_400, nl_800, nl_900, nl_999, nl_1000, nl_1001, nl_1024, nl_1103, nl_1928, nl_4321, nl_5560, nl_12345, nl_1000000, nl_1000003, nl_252645135, nl_858993459, nl_1431655765, nl_1000000000, nI_add, pk_mul, n_sub, n_neg, n_cl, leT, leF, ltT, ltF, eqT, eqF, kbT, s_II, s_In, s_IJ, s_IA, s_IL, s_IR, s_IC, s_JI, s_JJ, s_Jn, s_JA, s_JL, s_JR, s_JC, s_AI, s_AJ, s_AA, s_An, s_AL, s_AR, s_AC, s_LI, s_LJ, s_LA, s_LL, s_Ln, s_LR, s_LC, gb, c, hU, not_false_eq_true, ↓b_of kc, Nat.sub_add_cancel (show 1 ≤ gR S 0 l by omega)]
      · show k_up (gR U 1) l _ i = _
        unfold k_up
        by_cases q : i = l
        · rw [if_pos q, q]
        · rw [if_neg q]; exact hR i (by omega)
    obtain ⟨U', u1, u2, u3⟩ := step
    obtain ⟨W, f', w1, w2, w3⟩ := ih f (l + 1) U' (by omega) (by omega) u2 u3
    exact ⟨W, f', u1.trans w1, w2, w3⟩
set_option maxRecDepth 4000 in
theorem bc_s0 {S : St} (hE : ¬ gR S 3 0 = 0) (hK : ∀ i, i < 6 → gR S 0 i ≤ (gC S).length) : ∃ W, f_X10_become_o81_a0 S = some W ∧ Bc 55 0 81 0 1 0 S W := by
  generalize e1 : (sI (sF S 82 (va_cpy (gA S 1) (gA S 82) 0 0 6)) 55 (gI S 0)) = S1
  generalize e2 : (sI (sF (sF (sF (sF (sF S1 84 (va_cpy (gA S1 3) (gA S1 84) 0 0 16)) 85 (va_cpy (gA S1 4) (gA S1 85) 0 0 16)) 86 (va_cpy (gA S1 5) (gA S1 86) 0 0 16)) 87 (va_cpy (gA S1 6) (gA S1 87) 0 0 16)) 88 (va_cpy (gA S1 7) (gA S1 88) 0 0 16)) 56 (gI S1 1)) = S3
  generalize e3 : (sI S3 57 (gI S3 2)) = S4
  have hE1 : ¬ gR S1 3 0 = 0 := by rw [← e1]; exact hE
  have hE3 : ¬ gR S3 3 0 = 0 := by rw [← e2]; exact hE1
  have hE4 : ¬ gR S4 3 0 = 0 := by rw [← e3]; exact hE3
  have g4 : ∀ v, gR S4 v = gR S v := fun v => by rw [← e3, ← e2, ← e1]; rfl
  have c4 : gC S4 = gC S := by rw [← e3, ← e2, ← e1]; rfl
  obtain ⟨U, f', w1, w2, w3⟩ := bl_s0 hE4 (fun i hi => by rw [g4, c4]; exact hK i hi) 6 FU 0 S4 (by omega) (FU_ge (by omega)) (Fq.refl _ _) (fun i hi => absurd hi (Nat.not_lt_zero i))
  have hEU : ¬ gR U 3 0 = 0 := by rw [w2.2.2.2.2.1 3 (by decide)]; exact hE4
  have w1' := w1.trans (bt_s0 hEU f')
  refine ⟨(sI (sF (sF (sI (sF (sF (sI (sF (sF (sI (sI U 58 (gI U 3)) 59 (gI U 4)) 90 (va_cpy (gA U 9) (gA U 90) 0 0 8)) 91 (va_cpy (gA U 10) (gA U 91) 0 0 8)) 60 (gI U 5)) 92 (va_cpy (gA U 11) (gA U 92) 0 0 10)) 93 (va_cpy (gA U 12) (gA U 93) 0 0 10)) 61 (gI U 6)) 94 (va_cpy (gA U 13) (gA U 94) 0 0 12)) 95 (va_cpy (gA U 14) (gA U 95) 0 0 12)) 62 (gI U 7)), ?_, ?_⟩
  · have hd : f_X1_become_o83_a2 S1 = some S3 := by rw [← e2]; exact bd_s0 hE1
    have w1'' : f_X10_become_o81_a0_44 FU (0 : Int32) S4 = _ := w1'
    unfold f_X10_become_o81_a0
    simp only [k_let, s_FR, s_IR, hE, not_false_eq_true, ↓reduceIte]
    show ((f_X1_become_o83_a2 (sI (sF S 82 (va_cpy (gA S 1) (gA S 82) 0 0 6)) 55 (gI S 0))).bind _) = _
    rw [e1, hd, Option.bind_some, if_pos hE3]
    show f_X10_become_o81_a0_44 FU (0 : Int32) (sI S3 57 (gI S3 2)) = _
    rw [e3, w1'']
  · subst e3
    subst e2
    subst e1
    refine ⟨fun i hi => ?_, fun i hi => ?_, fun k => ?_, fun q hq i hi => ?_, fun j hj => ?_, fun k => ?_, fun i hi => ?_, fun w hw => ?_, ?_⟩
    · have : i = 0 ∨ i = 1 ∨ i = 2 ∨ i = 3 ∨ i = 4 ∨ i = 5 ∨ i = 6 ∨ i = 7 := by omega
      rcases this with rfl | rfl | rfl | rfl | rfl | rfl | rfl | rfl
      · show gI U 55 = gI S 0
        rw [w2.1]; rfl
      · show gI U 56 = gI S 1
        rw [w2.1]; rfl
      · show gI U 57 = gI S 2
        rw [w2.1]; rfl
      · show gI U 3 = gI S 3
        rw [w2.1]; rfl
      · show gI U 4 = gI S 4
        rw [w2.1]; rfl
      · show gI U 5 = gI S 5
        rw [w2.1]; rfl
      · show gI U 6 = gI S 6
        rw [w2.1]; rfl
      · show gI U 7 = gI S 7
        rw [w2.1]; rfl
    · simp (disch := omega) only [s_In, s_FI]
      rw [w2.1]
      simp (disch := omega) only [s_In, s_FI]
    · show gJ U k = gJ S k
      rw [w2.2.1]; rfl
    · simp only [rwL, List.mem_cons, List.not_mem_nil, or_false] at hq
      rcases hq with rfl | rfl | rfl | rfl | rfl | rfl | rfl | rfl | rfl | rfl | rfl | rfl
      · show gA U 82 i = gA S 1 i
        rw [w2.2.2.1]
        exact cpy0 hi
      · show gA U 84 i = gA S 3 i
        rw [w2.2.2.1]
        exact cpy0 hi
      · show gA U 85 i = gA S 4 i
        rw [w2.2.2.1]
        exact cpy0 hi
      · show gA U 86 i = gA S 5 i
        rw [w2.2.2.1]
        exact cpy0 hi
      · show gA U 87 i = gA S 6 i
        rw [w2.2.2.1]
        exact cpy0 hi
      · show gA U 88 i = gA S 7 i
        rw [w2.2.2.1]
        exact cpy0 hi
      · show va_cpy (gA U 9) _ 0 0 8 i = gA S 9 i
        rw [cpy0 hi, w2.2.2.1]; rfl
      · show va_cpy (gA U 10) _ 0 0 8 i = gA S 10 i
        rw [cpy0 hi, w2.2.2.1]; rfl
      · show va_cpy (gA U 11) _ 0 0 10 i = gA S 11 i
        rw [cpy0 hi, w2.2.2.1]; rfl
      · show va_cpy (gA U 12) _ 0 0 10 i = gA S 12 i
        rw [cpy0 hi, w2.2.2.1]; rfl
      · show va_cpy (gA U 13) _ 0 0 12 i = gA S 13 i
        rw [cpy0 hi, w2.2.2.1]; rfl
      · show va_cpy (gA U 14) _ 0 0 12 i = gA S 14 i
        rw [cpy0 hi, w2.2.2.1]; rfl
    · simp (disch := omega) only [s_Fn, s_IA]
      rw [w2.2.2.1]
      simp (disch := omega) only [s_Fn, s_IA]
    · show gL U k = gL S k
      rw [w2.2.2.2.1]; rfl
    · show gR U 1 i = gR S 0 i
      rw [w3 i hi]; rfl
    · show gR U w = gR S w
      rw [w2.2.2.2.2.1 w hw]; rfl
    · show gC U = gC S
      rw [w2.2.2.2.2.2]; rfl
theorem bd_b0 {S : St} (hE : ¬ gR S 3 0 = 0) : f_X1_become_a83 S = some (sI (sF (sF (sF (sF (sF S 3 (va_cpy (gA S 84) (gA S 3) 0 0 16)) 4 (va_cpy (gA S 85) (gA S 4) 0 0 16)) 5 (va_cpy (gA S 86) (gA S 5) 0 0 16)) 6 (va_cpy (gA S 87) (gA S 6) 0 0 16)) 7 (va_cpy (gA S 88) (gA S 7) 0 0 16)) 1 (gI S 56)) := by
  unfold f_X1_become_a83
  simp only [k_let, s_FR, s_IR, hE, not_false_eq_true, ↓reduceIte]
  rfl
theorem bt_b0 {U : St} (hE : ¬ gR U 3 0 = 0) (f : Nat) : f_X10_become_a81_44 (f + 1) (nI 6) U = some (sI (sF (sF (sI (sF (sF (sI (sF (sF (sI (sI U 3 (gI U 58)) 4 (gI U 59)) 9 (va_cpy (gA U 90) (gA U 9) 0 0 8)) 10 (va_cpy (gA U 91) (gA U 10) 0 0 8)) 5 (gI U 60)) 11 (va_cpy (gA U 92) (gA U 11) 0 0 10)) 12 (va_cpy (gA U 93) (gA U 12) 0 0 10)) 6 (gI U 61)) 13 (va_cpy (gA U 94) (gA U 13) 0 0 12)) 14 (va_cpy (gA U 95) (gA U 14) 0 0 12)) 7 (gI U 62)) := by
  rw [f_X10_become_a81_44, if_pos (show (6 : Int32) ≤ nI 6 by decide)]
  simp only [k_let, s_FR, s_IR, hE, not_false_eq_true, ↓reduceIte]
  rfl
theorem bl_b0 {S : St} (hE : ¬ gR S 3 0 = 0) (hK : ∀ i, i < 6 → gR S 1 i ≤ (gC S).length) : ∀ (m f l : Nat) (U : St), l + m = 6 → m < f → Fq 0 S U → (∀ i, i < l → gR U 0 i = gR S 1 i) → ∃ W f', f_X10_become_a81_44 f (nI l) U = f_X10_become_a81_44 (f' + 1) (nI 6) W ∧ Fq 0 S W ∧ ∀ i, i < 6 → gR W 0 i = gR S 1 i := by
  intro m
  induction m with
  | zero =>
    intro f l U hl hf hF hR
    have : l = 6 := by omega
    subst this
    exact ⟨U, f - 1, by rw [show f - 1 + 1 = f by omega], hF, hR⟩
  | succ m ih =>
    intro f l U hl hf hF hR
    obtain ⟨f, rfl⟩ : ∃ g, f = g + 1 := ⟨f - 1, by omega⟩
    have hU : ¬ gR U 3 0 = 0 := by rw [hF.2.2.2.2.1 3 (by decide)]; exact hE
    have gb : gR U 1 l = gR S 1 l := by rw [hF.2.2.2.2.1 1 (by decide)]
    have kl := hK l (by omega)
    have step : ∃ U', f_X10_become_a81_44 (f + 1) (nI l) U = f_X10_become_a81_44 f (nI (l + 1)) U' ∧ Fq 0 S U' ∧ ∀ i, i < l + 1 → gR U' 0 i = gR S 1 i := by
      refine ⟨sR U 0 l (gR S 1 l), ?_, hF.sR _ _, fun i hi => ?_⟩
      · by_cases c : gR S 1 l = 0
        · rw [f_X10_become_a81_44]
          simp (disch := omega) only [k_let, Option.bind_some, ↓reduceIte, eq_self, true_or, or_true, n01_0, n01_1, kb_or, kb_0T, kb_0F, vn_0, vn_1, vn_k, nl_0, nl_1, nl_2, nl_3, nl_4, nl_5, nl_6, nl_7, nl_8, nl_9, nl_10, nl_11, nl_12, nl_13, nl_14, nl_15, nl_16, nl_20, nl_21, nl_22, nl_23, nl_24, nl_25, nl_26, nl_27, nl_28, nl_29, nl_30, nl_31, nl_32, nl_40, nl_41, nl_42, nl_43, nl_45, nl_47, nl_48, nl_50, nl_57, nl_59, nl_60, nl_61, nl_62, nl_63, nl_64, nl_91, nl_93, nl_94, nl_97, nl_98, nl_100, nl_110, nl_122, nl_130, nl_144, nl_160, nl_240, nl_241, nl_255, nl_256, nl_400, nl_800, nl_900, nl_999, nl_1000, nl_1001, nl_1024, nl_1103, nl_1928, nl_4321, nl_5560, nl_12345, nl_1000000, nl_1000003, nl_252645135, nl_858993459, nl_1431655765, nl_1000000000, nI_add, pk_mul, n_sub, n_neg, n_cl, leT, leF, ltT, ltF, eqT, eqF, kbT, s_II, s_In, s_IJ, s_IA, s_IL, s_IR, s_IC, s_JI, s_JJ, s_Jn, s_JA, s_JL, s_JR, s_JC, s_AI, s_AJ, s_AA, s_An, s_AL, s_AR, s_AC, s_LI, s_LJ, s_LA, s_LL, s_Ln, s_LR, s_LC, gb, c, hU, not_false_eq_true]
        · have kc : k_code U (gR S 1 l - 1) = some ((gC S)[gR S 1 l - 1]'(by omega)) := by
            show (gC U)[gR S 1 l - 1]? = _
            rw [hF.2.2.2.2.2, List.getElem?_eq_getElem]
          rw [f_X10_become_a81_44]
          simp (disch := omega) only [k_let, Option.bind_some, ↓reduceIte, eq_self, true_or, or_true, n01_0, n01_1, kb_or, kb_0T, kb_0F, vn_0, vn_1, vn_k, nl_0, nl_1, nl_2, nl_3, nl_4, nl_5, nl_6, nl_7, nl_8, nl_9, nl_10, nl_11, nl_12, nl_13, nl_14, nl_15, nl_16, nl_20, nl_21, nl_22, nl_23, nl_24, nl_25, nl_26, nl_27, nl_28, nl_29, nl_30, nl_31, nl_32, nl_40, nl_41, nl_42, nl_43, nl_45, nl_47, nl_48, nl_50, nl_57, nl_59, nl_60, nl_61, nl_62, nl_63, nl_64, nl_91, nl_93, nl_94, nl_97, nl_98, nl_100, nl_110, nl_122, nl_130, nl_144, nl_160, nl_240, nl_241, nl_255, nl_256, nl_400, nl_800, nl_900, nl_999, nl_1000, nl_1001, nl_1024, nl_1103, nl_1928, nl_4321, nl_5560, nl_12345, nl_1000000, nl_1000003, nl_252645135, nl_858993459, nl_1431655765, nl_1000000000, nI_add, pk_mul, n_sub, n_neg, n_cl, leT, leF, ltT, ltF, eqT, eqF, kbT, s_II, s_In, s_IJ, s_IA, s_IL, s_IR, s_IC, s_JI, s_JJ, s_Jn, s_JA, s_JL, s_JR, s_JC, s_AI, s_AJ, s_AA, s_An, s_AL, s_AR, s_AC, s_LI, s_LJ, s_LA, s_LL, s_Ln, s_LR, s_LC, gb, c, hU, not_false_eq_true, ↓b_of kc, Nat.sub_add_cancel (show 1 ≤ gR S 1 l by omega)]
      · show k_up (gR U 0) l _ i = _
        unfold k_up
        by_cases q : i = l
        · rw [if_pos q, q]
        · rw [if_neg q]; exact hR i (by omega)
    obtain ⟨U', u1, u2, u3⟩ := step
    obtain ⟨W, f', w1, w2, w3⟩ := ih f (l + 1) U' (by omega) (by omega) u2 u3
    exact ⟨W, f', u1.trans w1, w2, w3⟩
set_option maxRecDepth 4000 in
theorem bc_b0 {S : St} (hE : ¬ gR S 3 0 = 0) (hK : ∀ i, i < 6 → gR S 1 i ≤ (gC S).length) : ∃ W, f_X10_become_a81 S = some W ∧ Bc 0 55 0 81 0 1 S W := by
  generalize e1 : (sI (sF S 1 (va_cpy (gA S 82) (gA S 1) 0 0 6)) 0 (gI S 55)) = S1
  generalize e2 : (sI (sF (sF (sF (sF (sF S1 3 (va_cpy (gA S1 84) (gA S1 3) 0 0 16)) 4 (va_cpy (gA S1 85) (gA S1 4) 0 0 16)) 5 (va_cpy (gA S1 86) (gA S1 5) 0 0 16)) 6 (va_cpy (gA S1 87) (gA S1 6) 0 0 16)) 7 (va_cpy (gA S1 88) (gA S1 7) 0 0 16)) 1 (gI S1 56)) = S3
  generalize e3 : (sI S3 2 (gI S3 57)) = S4
  have hE1 : ¬ gR S1 3 0 = 0 := by rw [← e1]; exact hE
  have hE3 : ¬ gR S3 3 0 = 0 := by rw [← e2]; exact hE1
  have hE4 : ¬ gR S4 3 0 = 0 := by rw [← e3]; exact hE3
  have g4 : ∀ v, gR S4 v = gR S v := fun v => by rw [← e3, ← e2, ← e1]; rfl
  have c4 : gC S4 = gC S := by rw [← e3, ← e2, ← e1]; rfl
  obtain ⟨U, f', w1, w2, w3⟩ := bl_b0 hE4 (fun i hi => by rw [g4, c4]; exact hK i hi) 6 FU 0 S4 (by omega) (FU_ge (by omega)) (Fq.refl _ _) (fun i hi => absurd hi (Nat.not_lt_zero i))
  have hEU : ¬ gR U 3 0 = 0 := by rw [w2.2.2.2.2.1 3 (by decide)]; exact hE4
  have w1' := w1.trans (bt_b0 hEU f')
  refine ⟨(sI (sF (sF (sI (sF (sF (sI (sF (sF (sI (sI U 3 (gI U 58)) 4 (gI U 59)) 9 (va_cpy (gA U 90) (gA U 9) 0 0 8)) 10 (va_cpy (gA U 91) (gA U 10) 0 0 8)) 5 (gI U 60)) 11 (va_cpy (gA U 92) (gA U 11) 0 0 10)) 12 (va_cpy (gA U 93) (gA U 12) 0 0 10)) 6 (gI U 61)) 13 (va_cpy (gA U 94) (gA U 13) 0 0 12)) 14 (va_cpy (gA U 95) (gA U 14) 0 0 12)) 7 (gI U 62)), ?_, ?_⟩
  · have hd : f_X1_become_a83 S1 = some S3 := by rw [← e2]; exact bd_b0 hE1
    have w1'' : f_X10_become_a81_44 FU (0 : Int32) S4 = _ := w1'
    unfold f_X10_become_a81
    simp only [k_let, s_FR, s_IR, hE, not_false_eq_true, ↓reduceIte]
    show ((f_X1_become_a83 (sI (sF S 1 (va_cpy (gA S 82) (gA S 1) 0 0 6)) 0 (gI S 55))).bind _) = _
    rw [e1, hd, Option.bind_some, if_pos hE3]
    show f_X10_become_a81_44 FU (0 : Int32) (sI S3 2 (gI S3 57)) = _
    rw [e3, w1'']
  · subst e3
    subst e2
    subst e1
    refine ⟨fun i hi => ?_, fun i hi => ?_, fun k => ?_, fun q hq i hi => ?_, fun j hj => ?_, fun k => ?_, fun i hi => ?_, fun w hw => ?_, ?_⟩
    · have : i = 0 ∨ i = 1 ∨ i = 2 ∨ i = 3 ∨ i = 4 ∨ i = 5 ∨ i = 6 ∨ i = 7 := by omega
      rcases this with rfl | rfl | rfl | rfl | rfl | rfl | rfl | rfl
      · show gI U 0 = gI S 55
        rw [w2.1]; rfl
      · show gI U 1 = gI S 56
        rw [w2.1]; rfl
      · show gI U 2 = gI S 57
        rw [w2.1]; rfl
      · show gI U 58 = gI S 58
        rw [w2.1]; rfl
      · show gI U 59 = gI S 59
        rw [w2.1]; rfl
      · show gI U 60 = gI S 60
        rw [w2.1]; rfl
      · show gI U 61 = gI S 61
        rw [w2.1]; rfl
      · show gI U 62 = gI S 62
        rw [w2.1]; rfl
    · simp (disch := omega) only [s_In, s_FI]
      rw [w2.1]
      simp (disch := omega) only [s_In, s_FI]
    · show gJ U k = gJ S k
      rw [w2.2.1]; rfl
    · simp only [rwL, List.mem_cons, List.not_mem_nil, or_false] at hq
      rcases hq with rfl | rfl | rfl | rfl | rfl | rfl | rfl | rfl | rfl | rfl | rfl | rfl
      · show gA U 1 i = gA S 82 i
        rw [w2.2.2.1]
        exact cpy0 hi
      · show gA U 3 i = gA S 84 i
        rw [w2.2.2.1]
        exact cpy0 hi
      · show gA U 4 i = gA S 85 i
        rw [w2.2.2.1]
        exact cpy0 hi
      · show gA U 5 i = gA S 86 i
        rw [w2.2.2.1]
        exact cpy0 hi
      · show gA U 6 i = gA S 87 i
        rw [w2.2.2.1]
        exact cpy0 hi
      · show gA U 7 i = gA S 88 i
        rw [w2.2.2.1]
        exact cpy0 hi
      · show va_cpy (gA U 90) _ 0 0 8 i = gA S 90 i
        rw [cpy0 hi, w2.2.2.1]; rfl
      · show va_cpy (gA U 91) _ 0 0 8 i = gA S 91 i
        rw [cpy0 hi, w2.2.2.1]; rfl
      · show va_cpy (gA U 92) _ 0 0 10 i = gA S 92 i
        rw [cpy0 hi, w2.2.2.1]; rfl
      · show va_cpy (gA U 93) _ 0 0 10 i = gA S 93 i
        rw [cpy0 hi, w2.2.2.1]; rfl
      · show va_cpy (gA U 94) _ 0 0 12 i = gA S 94 i
        rw [cpy0 hi, w2.2.2.1]; rfl
      · show va_cpy (gA U 95) _ 0 0 12 i = gA S 95 i
        rw [cpy0 hi, w2.2.2.1]; rfl
    · simp (disch := omega) only [s_Fn, s_IA]
      rw [w2.2.2.1]
      simp (disch := omega) only [s_Fn, s_IA]
    · show gL U k = gL S k
      rw [w2.2.2.2.1]; rfl
    · show gR U 0 i = gR S 1 i
      rw [w3 i hi]; rfl
    · show gR U w = gR S w
      rw [w2.2.2.2.2.1 w hw]; rfl
    · show gC U = gC S
      rw [w2.2.2.2.2.2]; rfl
theorem bd_s1 {S : St} (hE : ¬ gR S 3 1 = 0) : f_X1_become_o98_a2 S = some (sI (sF (sF (sF (sF (sF S 99 (va_cpy (gA S 3) (gA S 99) 0 0 16)) 100 (va_cpy (gA S 4) (gA S 100) 0 0 16)) 101 (va_cpy (gA S 5) (gA S 101) 0 0 16)) 102 (va_cpy (gA S 6) (gA S 102) 0 0 16)) 103 (va_cpy (gA S 7) (gA S 103) 0 0 16)) 64 (gI S 1)) := by
  unfold f_X1_become_o98_a2
  simp only [k_let, s_FR, s_IR, hE, not_false_eq_true, ↓reduceIte]
  rfl
theorem bt_s1 {U : St} (hE : ¬ gR U 3 1 = 0) (f : Nat) : f_X10_become_o96_a0_44 (f + 1) (nI 6) U = some (sI (sF (sF (sI (sF (sF (sI (sF (sF (sI (sI U 66 (gI U 3)) 67 (gI U 4)) 105 (va_cpy (gA U 9) (gA U 105) 0 0 8)) 106 (va_cpy (gA U 10) (gA U 106) 0 0 8)) 68 (gI U 5)) 107 (va_cpy (gA U 11) (gA U 107) 0 0 10)) 108 (va_cpy (gA U 12) (gA U 108) 0 0 10)) 69 (gI U 6)) 109 (va_cpy (gA U 13) (gA U 109) 0 0 12)) 110 (va_cpy (gA U 14) (gA U 110) 0 0 12)) 70 (gI U 7)) := by
  rw [f_X10_become_o96_a0_44, if_pos (show (6 : Int32) ≤ nI 6 by decide)]
  simp only [k_let, s_FR, s_IR, hE, not_false_eq_true, ↓reduceIte]
  rfl
theorem bl_s1 {S : St} (hE : ¬ gR S 3 1 = 0) (hK : ∀ i, i < 6 → gR S 0 i ≤ (gC S).length) : ∀ (m f l : Nat) (U : St), l + m = 6 → m < f → Fq 2 S U → (∀ i, i < l → gR U 2 i = gR S 0 i) → ∃ W f', f_X10_become_o96_a0_44 f (nI l) U = f_X10_become_o96_a0_44 (f' + 1) (nI 6) W ∧ Fq 2 S W ∧ ∀ i, i < 6 → gR W 2 i = gR S 0 i := by
  intro m
  induction m with
  | zero =>
    intro f l U hl hf hF hR
    have : l = 6 := by omega
    subst this
    exact ⟨U, f - 1, by rw [show f - 1 + 1 = f by omega], hF, hR⟩
  | succ m ih =>
    intro f l U hl hf hF hR
    obtain ⟨f, rfl⟩ : ∃ g, f = g + 1 := ⟨f - 1, by omega⟩
    have hU : ¬ gR U 3 1 = 0 := by rw [hF.2.2.2.2.1 3 (by decide)]; exact hE
    have gb : gR U 0 l = gR S 0 l := by rw [hF.2.2.2.2.1 0 (by decide)]
    have kl := hK l (by omega)
    have step : ∃ U', f_X10_become_o96_a0_44 (f + 1) (nI l) U = f_X10_become_o96_a0_44 f (nI (l + 1)) U' ∧ Fq 2 S U' ∧ ∀ i, i < l + 1 → gR U' 2 i = gR S 0 i := by
      refine ⟨sR U 2 l (gR S 0 l), ?_, hF.sR _ _, fun i hi => ?_⟩
      · by_cases c : gR S 0 l = 0
        · rw [f_X10_become_o96_a0_44]
          simp (disch := omega) only [k_let, Option.bind_some, ↓reduceIte, eq_self, true_or, or_true, n01_0, n01_1, kb_or, kb_0T, kb_0F, vn_0, vn_1, vn_k, nl_0, nl_1, nl_2, nl_3, nl_4, nl_5, nl_6, nl_7, nl_8, nl_9, nl_10, nl_11, nl_12, nl_13, nl_14, nl_15, nl_16, nl_20, nl_21, nl_22, nl_23, nl_24, nl_25, nl_26, nl_27, nl_28, nl_29, nl_30, nl_31, nl_32, nl_40, nl_41, nl_42, nl_43, nl_45, nl_47, nl_48, nl_50, nl_57, nl_59, nl_60, nl_61, nl_62, nl_63, nl_64, nl_91, nl_93, nl_94, nl_97, nl_98, nl_100, nl_110, nl_122, nl_130, nl_144, nl_160, nl_240, nl_241, nl_255, nl_256, nl_400, nl_800, nl_900, nl_999, nl_1000, nl_1001, nl_1024, nl_1103, nl_1928, nl_4321, nl_5560, nl_12345, nl_1000000, nl_1000003, nl_252645135, nl_858993459, nl_1431655765, nl_1000000000, nI_add, pk_mul, n_sub, n_neg, n_cl, leT, leF, ltT, ltF, eqT, eqF, kbT, s_II, s_In, s_IJ, s_IA, s_IL, s_IR, s_IC, s_JI, s_JJ, s_Jn, s_JA, s_JL, s_JR, s_JC, s_AI, s_AJ, s_AA, s_An, s_AL, s_AR, s_AC, s_LI, s_LJ, s_LA, s_LL, s_Ln, s_LR, s_LC, gb, c, hU, not_false_eq_true]
        · have kc : k_code U (gR S 0 l - 1) = some ((gC S)[gR S 0 l - 1]'(by omega)) := by
            show (gC U)[gR S 0 l - 1]? = _
            rw [hF.2.2.2.2.2, List.getElem?_eq_getElem]
          rw [f_X10_become_o96_a0_44]
          simp (disch := omega) only [k_let, Option.bind_some, ↓reduceIte, eq_self, true_or, or_true, n01_0, n01_1, kb_or, kb_0T, kb_0F, vn_0, vn_1, vn_k, nl_0, nl_1, nl_2, nl_3, nl_4, nl_5, nl_6, nl_7, nl_8, nl_9, nl_10, nl_11, nl_12, nl_13, nl_14, nl_15, nl_16, nl_20, nl_21, nl_22, nl_23, nl_24, nl_25, nl_26, nl_27, nl_28, nl_29, nl_30, nl_31, nl_32, nl_40, nl_41, nl_42, nl_43, nl_45, nl_47, nl_48, nl_50, nl_57, nl_59, nl_60, nl_61, nl_62, nl_63, nl_64, nl_91, nl_93, nl_94, nl_97, nl_98, nl_100, nl_110, nl_122, nl_130, nl_144, nl_160, nl_240, nl_241, nl_255, nl_256, nl_400, nl_800, nl_900, nl_999, nl_1000, nl_1001, nl_1024, nl_1103, nl_1928, nl_4321, nl_5560, nl_12345, nl_1000000, nl_1000003, nl_252645135, nl_858993459, nl_1431655765, nl_1000000000, nI_add, pk_mul, n_sub, n_neg, n_cl, leT, leF, ltT, ltF, eqT, eqF, kbT, s_II, s_In, s_IJ, s_IA, s_IL, s_IR, s_IC, s_JI, s_JJ, s_Jn, s_JA, s_JL, s_JR, s_JC, s_AI, s_AJ, s_AA, s_An, s_AL, s_AR, s_AC, s_LI, s_LJ, s_LA, s_LL, s_Ln, s_LR, s_LC, gb, c, hU, not_false_eq_true, ↓b_of kc, Nat.sub_add_cancel (show 1 ≤ gR S 0 l by omega)]
      · show k_up (gR U 2) l _ i = _
        unfold k_up
        by_cases q : i = l
        · rw [if_pos q, q]
        · rw [if_neg q]; exact hR i (by omega)
    obtain ⟨U', u1, u2, u3⟩ := step
    obtain ⟨W, f', w1, w2, w3⟩ := ih f (l + 1) U' (by omega) (by omega) u2 u3
    exact ⟨W, f', u1.trans w1, w2, w3⟩
set_option maxRecDepth 4000 in
theorem bc_s1 {S : St} (hE : ¬ gR S 3 1 = 0) (hK : ∀ i, i < 6 → gR S 0 i ≤ (gC S).length) : ∃ W, f_X10_become_o96_a0 S = some W ∧ Bc 63 0 96 0 2 0 S W := by
  generalize e1 : (sI (sF S 97 (va_cpy (gA S 1) (gA S 97) 0 0 6)) 63 (gI S 0)) = S1
  generalize e2 : (sI (sF (sF (sF (sF (sF S1 99 (va_cpy (gA S1 3) (gA S1 99) 0 0 16)) 100 (va_cpy (gA S1 4) (gA S1 100) 0 0 16)) 101 (va_cpy (gA S1 5) (gA S1 101) 0 0 16)) 102 (va_cpy (gA S1 6) (gA S1 102) 0 0 16)) 103 (va_cpy (gA S1 7) (gA S1 103) 0 0 16)) 64 (gI S1 1)) = S3
  generalize e3 : (sI S3 65 (gI S3 2)) = S4
  have hE1 : ¬ gR S1 3 1 = 0 := by rw [← e1]; exact hE
  have hE3 : ¬ gR S3 3 1 = 0 := by rw [← e2]; exact hE1
  have hE4 : ¬ gR S4 3 1 = 0 := by rw [← e3]; exact hE3
  have g4 : ∀ v, gR S4 v = gR S v := fun v => by rw [← e3, ← e2, ← e1]; rfl
  have c4 : gC S4 = gC S := by rw [← e3, ← e2, ← e1]; rfl
  obtain ⟨U, f', w1, w2, w3⟩ := bl_s1 hE4 (fun i hi => by rw [g4, c4]; exact hK i hi) 6 FU 0 S4 (by omega) (FU_ge (by omega)) (Fq.refl _ _) (fun i hi => absurd hi (Nat.not_lt_zero i))
  have hEU : ¬ gR U 3 1 = 0 := by rw [w2.2.2.2.2.1 3 (by decide)]; exact hE4
  have w1' := w1.trans (bt_s1 hEU f')
  refine ⟨(sI (sF (sF (sI (sF (sF (sI (sF (sF (sI (sI U 66 (gI U 3)) 67 (gI U 4)) 105 (va_cpy (gA U 9) (gA U 105) 0 0 8)) 106 (va_cpy (gA U 10) (gA U 106) 0 0 8)) 68 (gI U 5)) 107 (va_cpy (gA U 11) (gA U 107) 0 0 10)) 108 (va_cpy (gA U 12) (gA U 108) 0 0 10)) 69 (gI U 6)) 109 (va_cpy (gA U 13) (gA U 109) 0 0 12)) 110 (va_cpy (gA U 14) (gA U 110) 0 0 12)) 70 (gI U 7)), ?_, ?_⟩
  · have hd : f_X1_become_o98_a2 S1 = some S3 := by rw [← e2]; exact bd_s1 hE1
    have w1'' : f_X10_become_o96_a0_44 FU (0 : Int32) S4 = _ := w1'
    unfold f_X10_become_o96_a0
    simp only [k_let, s_FR, s_IR, hE, not_false_eq_true, ↓reduceIte]
    show ((f_X1_become_o98_a2 (sI (sF S 97 (va_cpy (gA S 1) (gA S 97) 0 0 6)) 63 (gI S 0))).bind _) = _
    rw [e1, hd, Option.bind_some, if_pos hE3]
    show f_X10_become_o96_a0_44 FU (0 : Int32) (sI S3 65 (gI S3 2)) = _
    rw [e3, w1'']
  · subst e3
    subst e2
    subst e1
    refine ⟨fun i hi => ?_, fun i hi => ?_, fun k => ?_, fun q hq i hi => ?_, fun j hj => ?_, fun k => ?_, fun i hi => ?_, fun w hw => ?_, ?_⟩
    · have : i = 0 ∨ i = 1 ∨ i = 2 ∨ i = 3 ∨ i = 4 ∨ i = 5 ∨ i = 6 ∨ i = 7 := by omega
      rcases this with rfl | rfl | rfl | rfl | rfl | rfl | rfl | rfl
      · show gI U 63 = gI S 0
        rw [w2.1]; rfl
      · show gI U 64 = gI S 1
        rw [w2.1]; rfl
      · show gI U 65 = gI S 2
        rw [w2.1]; rfl
      · show gI U 3 = gI S 3
        rw [w2.1]; rfl
      · show gI U 4 = gI S 4
        rw [w2.1]; rfl
      · show gI U 5 = gI S 5
        rw [w2.1]; rfl
      · show gI U 6 = gI S 6
        rw [w2.1]; rfl
      · show gI U 7 = gI S 7
        rw [w2.1]; rfl
    · simp (disch := omega) only [s_In, s_FI]
      rw [w2.1]
      simp (disch := omega) only [s_In, s_FI]
    · show gJ U k = gJ S k
      rw [w2.2.1]; rfl
    · simp only [rwL, List.mem_cons, List.not_mem_nil, or_false] at hq
      rcases hq with rfl | rfl | rfl | rfl | rfl | rfl | rfl | rfl | rfl | rfl | rfl | rfl
      · show gA U 97 i = gA S 1 i
        rw [w2.2.2.1]
        exact cpy0 hi
      · show gA U 99 i = gA S 3 i
        rw [w2.2.2.1]
        exact cpy0 hi
      · show gA U 100 i = gA S 4 i
        rw [w2.2.2.1]
        exact cpy0 hi
      · show gA U 101 i = gA S 5 i
        rw [w2.2.2.1]
        exact cpy0 hi
      · show gA U 102 i = gA S 6 i
        rw [w2.2.2.1]
        exact cpy0 hi
      · show gA U 103 i = gA S 7 i
        rw [w2.2.2.1]
        exact cpy0 hi
      · show va_cpy (gA U 9) _ 0 0 8 i = gA S 9 i
        rw [cpy0 hi, w2.2.2.1]; rfl
      · show va_cpy (gA U 10) _ 0 0 8 i = gA S 10 i
        rw [cpy0 hi, w2.2.2.1]; rfl
      · show va_cpy (gA U 11) _ 0 0 10 i = gA S 11 i
        rw [cpy0 hi, w2.2.2.1]; rfl
      · show va_cpy (gA U 12) _ 0 0 10 i = gA S 12 i
        rw [cpy0 hi, w2.2.2.1]; rfl
      · show va_cpy (gA U 13) _ 0 0 12 i = gA S 13 i
        rw [cpy0 hi, w2.2.2.1]; rfl
      · show va_cpy (gA U 14) _ 0 0 12 i = gA S 14 i
        rw [cpy0 hi, w2.2.2.1]; rfl
    · simp (disch := omega) only [s_Fn, s_IA]
      rw [w2.2.2.1]
      simp (disch := omega) only [s_Fn, s_IA]
    · show gL U k = gL S k
      rw [w2.2.2.2.1]; rfl
    · show gR U 2 i = gR S 0 i
      rw [w3 i hi]; rfl
    · show gR U w = gR S w
      rw [w2.2.2.2.2.1 w hw]; rfl
    · show gC U = gC S
      rw [w2.2.2.2.2.2]; rfl
theorem bd_b1 {S : St} (hE : ¬ gR S 3 1 = 0) : f_X1_become_a98 S = some (sI (sF (sF (sF (sF (sF S 3 (va_cpy (gA S 99) (gA S 3) 0 0 16)) 4 (va_cpy (gA S 100) (gA S 4) 0 0 16)) 5 (va_cpy (gA S 101) (gA S 5) 0 0 16)) 6 (va_cpy (gA S 102) (gA S 6) 0 0 16)) 7 (va_cpy (gA S 103) (gA S 7) 0 0 16)) 1 (gI S 64)) := by
  unfold f_X1_become_a98
  simp only [k_let, s_FR, s_IR, hE, not_false_eq_true, ↓reduceIte]
  rfl
theorem bt_b1 {U : St} (hE : ¬ gR U 3 1 = 0) (f : Nat) : f_X10_become_a96_44 (f + 1) (nI 6) U = some (sI (sF (sF (sI (sF (sF (sI (sF (sF (sI (sI U 3 (gI U 66)) 4 (gI U 67)) 9 (va_cpy (gA U 105) (gA U 9) 0 0 8)) 10 (va_cpy (gA U 106) (gA U 10) 0 0 8)) 5 (gI U 68)) 11 (va_cpy (gA U 107) (gA U 11) 0 0 10)) 12 (va_cpy (gA U 108) (gA U 12) 0 0 10)) 6 (gI U 69)) 13 (va_cpy (gA U 109) (gA U 13) 0 0 12)) 14 (va_cpy (gA U 110) (gA U 14) 0 0 12)) 7 (gI U 70)) := by
  rw [f_X10_become_a96_44, if_pos (show (6 : Int32) ≤ nI 6 by decide)]
  simp only [k_let, s_FR, s_IR, hE, not_false_eq_true, ↓reduceIte]
  rfl
theorem bl_b1 {S : St} (hE : ¬ gR S 3 1 = 0) (hK : ∀ i, i < 6 → gR S 2 i ≤ (gC S).length) : ∀ (m f l : Nat) (U : St), l + m = 6 → m < f → Fq 0 S U → (∀ i, i < l → gR U 0 i = gR S 2 i) → ∃ W f', f_X10_become_a96_44 f (nI l) U = f_X10_become_a96_44 (f' + 1) (nI 6) W ∧ Fq 0 S W ∧ ∀ i, i < 6 → gR W 0 i = gR S 2 i := by
  intro m
  induction m with
  | zero =>
    intro f l U hl hf hF hR
    have : l = 6 := by omega
    subst this
    exact ⟨U, f - 1, by rw [show f - 1 + 1 = f by omega], hF, hR⟩
  | succ m ih =>
    intro f l U hl hf hF hR
    obtain ⟨f, rfl⟩ : ∃ g, f = g + 1 := ⟨f - 1, by omega⟩
    have hU : ¬ gR U 3 1 = 0 := by rw [hF.2.2.2.2.1 3 (by decide)]; exact hE
    have gb : gR U 2 l = gR S 2 l := by rw [hF.2.2.2.2.1 2 (by decide)]
    have kl := hK l (by omega)
    have step : ∃ U', f_X10_become_a96_44 (f + 1) (nI l) U = f_X10_become_a96_44 f (nI (l + 1)) U' ∧ Fq 0 S U' ∧ ∀ i, i < l + 1 → gR U' 0 i = gR S 2 i := by
      refine ⟨sR U 0 l (gR S 2 l), ?_, hF.sR _ _, fun i hi => ?_⟩
      · by_cases c : gR S 2 l = 0
        · rw [f_X10_become_a96_44]
          simp (disch := omega) only [k_let, Option.bind_some, ↓reduceIte, eq_self, true_or, or_true, n01_0, n01_1, kb_or, kb_0T, kb_0F, vn_0, vn_1, vn_k, nl_0, nl_1, nl_2, nl_3, nl_4, nl_5, nl_6, nl_7, nl_8, nl_9, nl_10, nl_11, nl_12, nl_13, nl_14, nl_15, nl_16, nl_20, nl_21, nl_22, nl_23, nl_24, nl_25, nl_26, nl_27, nl_28, nl_29, nl_30, nl_31, nl_32, nl_40, nl_41, nl_42, nl_43, nl_45, nl_47, nl_48, nl_50, nl_57, nl_59, nl_60, nl_61, nl_62, nl_63, nl_64, nl_91, nl_93, nl_94, nl_97, nl_98, nl_100, nl_110, nl_122, nl_130, nl_144, nl_160, nl_240, nl_241, nl_255, nl_256, nl_400, nl_800, nl_900, nl_999, nl_1000, nl_1001, nl_1024, nl_1103, nl_1928, nl_4321, nl_5560, nl_12345, nl_1000000, nl_1000003, nl_252645135, nl_858993459, nl_1431655765, nl_1000000000, nI_add, pk_mul, n_sub, n_neg, n_cl, leT, leF, ltT, ltF, eqT, eqF, kbT, s_II, s_In, s_IJ, s_IA, s_IL, s_IR, s_IC, s_JI, s_JJ, s_Jn, s_JA, s_JL, s_JR, s_JC, s_AI, s_AJ, s_AA, s_An, s_AL, s_AR, s_AC, s_LI, s_LJ, s_LA, s_LL, s_Ln, s_LR, s_LC, gb, c, hU, not_false_eq_true]
        · have kc : k_code U (gR S 2 l - 1) = some ((gC S)[gR S 2 l - 1]'(by omega)) := by
            show (gC U)[gR S 2 l - 1]? = _
            rw [hF.2.2.2.2.2, List.getElem?_eq_getElem]
          rw [f_X10_become_a96_44]
          simp (disch := omega) only [k_let, Option.bind_some, ↓reduceIte, eq_self, true_or, or_true, n01_0, n01_1, kb_or, kb_0T, kb_0F, vn_0, vn_1, vn_k, nl_0, nl_1, nl_2, nl_3, nl_4, nl_5, nl_6, nl_7, nl_8, nl_9, nl_10, nl_11, nl_12, nl_13, nl_14, nl_15, nl_16, nl_20, nl_21, nl_22, nl_23, nl_24, nl_25, nl_26, nl_27, nl_28, nl_29, nl_30, nl_31, nl_32, nl_40, nl_41, nl_42, nl_43, nl_45, nl_47, nl_48, nl_50, nl_57, nl_59, nl_60, nl_61, nl_62, nl_63, nl_64, nl_91, nl_93, nl_94, nl_97, nl_98, nl_100, nl_110, nl_122, nl_130, nl_144, nl_160, nl_240, nl_241, nl_255, nl_256, nl_400, nl_800, nl_900, nl_999, nl_1000, nl_1001, nl_1024, nl_1103, nl_1928, nl_4321, nl_5560, nl_12345, nl_1000000, nl_1000003, nl_252645135, nl_858993459, nl_1431655765, nl_1000000000, nI_add, pk_mul, n_sub, n_neg, n_cl, leT, leF, ltT, ltF, eqT, eqF, kbT, s_II, s_In, s_IJ, s_IA, s_IL, s_IR, s_IC, s_JI, s_JJ, s_Jn, s_JA, s_JL, s_JR, s_JC, s_AI, s_AJ, s_AA, s_An, s_AL, s_AR, s_AC, s_LI, s_LJ, s_LA, s_LL, s_Ln, s_LR, s_LC, gb, c, hU, not_false_eq_true, ↓b_of kc, Nat.sub_add_cancel (show 1 ≤ gR S 2 l by omega)]
      · show k_up (gR U 0) l _ i = _
        unfold k_up
        by_cases q : i = l
        · rw [if_pos q, q]
        · rw [if_neg q]; exact hR i (by omega)
    obtain ⟨U', u1, u2, u3⟩ := step
    obtain ⟨W, f', w1, w2, w3⟩ := ih f (l + 1) U' (by omega) (by omega) u2 u3
    exact ⟨W, f', u1.trans w1, w2, w3⟩
set_option maxRecDepth 4000 in
theorem bc_b1 {S : St} (hE : ¬ gR S 3 1 = 0) (hK : ∀ i, i < 6 → gR S 2 i ≤ (gC S).length) : ∃ W, f_X10_become_a96 S = some W ∧ Bc 0 63 0 96 0 2 S W := by
  generalize e1 : (sI (sF S 1 (va_cpy (gA S 97) (gA S 1) 0 0 6)) 0 (gI S 63)) = S1
  generalize e2 : (sI (sF (sF (sF (sF (sF S1 3 (va_cpy (gA S1 99) (gA S1 3) 0 0 16)) 4 (va_cpy (gA S1 100) (gA S1 4) 0 0 16)) 5 (va_cpy (gA S1 101) (gA S1 5) 0 0 16)) 6 (va_cpy (gA S1 102) (gA S1 6) 0 0 16)) 7 (va_cpy (gA S1 103) (gA S1 7) 0 0 16)) 1 (gI S1 64)) = S3
  generalize e3 : (sI S3 2 (gI S3 65)) = S4
  have hE1 : ¬ gR S1 3 1 = 0 := by rw [← e1]; exact hE
  have hE3 : ¬ gR S3 3 1 = 0 := by rw [← e2]; exact hE1
  have hE4 : ¬ gR S4 3 1 = 0 := by rw [← e3]; exact hE3
  have g4 : ∀ v, gR S4 v = gR S v := fun v => by rw [← e3, ← e2, ← e1]; rfl
  have c4 : gC S4 = gC S := by rw [← e3, ← e2, ← e1]; rfl
  obtain ⟨U, f', w1, w2, w3⟩ := bl_b1 hE4 (fun i hi => by rw [g4, c4]; exact hK i hi) 6 FU 0 S4 (by omega) (FU_ge (by omega)) (Fq.refl _ _) (fun i hi => absurd hi (Nat.not_lt_zero i))
  have hEU : ¬ gR U 3 1 = 0 := by rw [w2.2.2.2.2.1 3 (by decide)]; exact hE4
  have w1' := w1.trans (bt_b1 hEU f')
  refine ⟨(sI (sF (sF (sI (sF (sF (sI (sF (sF (sI (sI U 3 (gI U 66)) 4 (gI U 67)) 9 (va_cpy (gA U 105) (gA U 9) 0 0 8)) 10 (va_cpy (gA U 106) (gA U 10) 0 0 8)) 5 (gI U 68)) 11 (va_cpy (gA U 107) (gA U 11) 0 0 10)) 12 (va_cpy (gA U 108) (gA U 12) 0 0 10)) 6 (gI U 69)) 13 (va_cpy (gA U 109) (gA U 13) 0 0 12)) 14 (va_cpy (gA U 110) (gA U 14) 0 0 12)) 7 (gI U 70)), ?_, ?_⟩
  · have hd : f_X1_become_a98 S1 = some S3 := by rw [← e2]; exact bd_b1 hE1
    have w1'' : f_X10_become_a96_44 FU (0 : Int32) S4 = _ := w1'
    unfold f_X10_become_a96
    simp only [k_let, s_FR, s_IR, hE, not_false_eq_true, ↓reduceIte]
    show ((f_X1_become_a98 (sI (sF S 1 (va_cpy (gA S 97) (gA S 1) 0 0 6)) 0 (gI S 63))).bind _) = _
    rw [e1, hd, Option.bind_some, if_pos hE3]
    show f_X10_become_a96_44 FU (0 : Int32) (sI S3 2 (gI S3 65)) = _
    rw [e3, w1'']
  · subst e3
    subst e2
    subst e1
    refine ⟨fun i hi => ?_, fun i hi => ?_, fun k => ?_, fun q hq i hi => ?_, fun j hj => ?_, fun k => ?_, fun i hi => ?_, fun w hw => ?_, ?_⟩
    · have : i = 0 ∨ i = 1 ∨ i = 2 ∨ i = 3 ∨ i = 4 ∨ i = 5 ∨ i = 6 ∨ i = 7 := by omega
      rcases this with rfl | rfl | rfl | rfl | rfl | rfl | rfl | rfl
      · show gI U 0 = gI S 63
        rw [w2.1]; rfl
      · show gI U 1 = gI S 64
        rw [w2.1]; rfl
      · show gI U 2 = gI S 65
        rw [w2.1]; rfl
      · show gI U 66 = gI S 66
        rw [w2.1]; rfl
      · show gI U 67 = gI S 67
        rw [w2.1]; rfl
      · show gI U 68 = gI S 68
        rw [w2.1]; rfl
      · show gI U 69 = gI S 69
        rw [w2.1]; rfl
      · show gI U 70 = gI S 70
        rw [w2.1]; rfl
    · simp (disch := omega) only [s_In, s_FI]
      rw [w2.1]
      simp (disch := omega) only [s_In, s_FI]
    · show gJ U k = gJ S k
      rw [w2.2.1]; rfl
    · simp only [rwL, List.mem_cons, List.not_mem_nil, or_false] at hq
      rcases hq with rfl | rfl | rfl | rfl | rfl | rfl | rfl | rfl | rfl | rfl | rfl | rfl
      · show gA U 1 i = gA S 97 i
        rw [w2.2.2.1]
        exact cpy0 hi
      · show gA U 3 i = gA S 99 i
        rw [w2.2.2.1]
        exact cpy0 hi
      · show gA U 4 i = gA S 100 i
        rw [w2.2.2.1]
        exact cpy0 hi
      · show gA U 5 i = gA S 101 i
        rw [w2.2.2.1]
        exact cpy0 hi
      · show gA U 6 i = gA S 102 i
        rw [w2.2.2.1]
        exact cpy0 hi
      · show gA U 7 i = gA S 103 i
        rw [w2.2.2.1]
        exact cpy0 hi
      · show va_cpy (gA U 105) _ 0 0 8 i = gA S 105 i
        rw [cpy0 hi, w2.2.2.1]; rfl
      · show va_cpy (gA U 106) _ 0 0 8 i = gA S 106 i
        rw [cpy0 hi, w2.2.2.1]; rfl
      · show va_cpy (gA U 107) _ 0 0 10 i = gA S 107 i
        rw [cpy0 hi, w2.2.2.1]; rfl
      · show va_cpy (gA U 108) _ 0 0 10 i = gA S 108 i
        rw [cpy0 hi, w2.2.2.1]; rfl
      · show va_cpy (gA U 109) _ 0 0 12 i = gA S 109 i
        rw [cpy0 hi, w2.2.2.1]; rfl
      · show va_cpy (gA U 110) _ 0 0 12 i = gA S 110 i
        rw [cpy0 hi, w2.2.2.1]; rfl
    · simp (disch := omega) only [s_Fn, s_IA]
      rw [w2.2.2.1]
      simp (disch := omega) only [s_Fn, s_IA]
    · show gL U k = gL S k
      rw [w2.2.2.2.1]; rfl
    · show gR U 0 i = gR S 2 i
      rw [w3 i hi]; rfl
    · show gR U w = gR S w
      rw [w2.2.2.2.2.1 w hw]; rfl
    · show gC U = gC S
      rw [w2.2.2.2.2.2]; rfl
