/-! part 9b: cancel: the least, the reference -/
theorem nxt_mod {n i : Nat} (h : i < n) : (i + 1) % n = nxt n i := by
  unfold nxt
  by_cases c : i + 1 = n
  · rw [if_pos c, c, Nat.mod_self]
  · rw [if_neg c, Nat.mod_eq_of_lt (by omega)]
def mnM (B : Nat → Nat → Nat) (n : Nat) (p : Nat → Nat) (i : Nat) : Nat := if i = 0 then 1000000 else mnF B n p i
theorem l_m49 {r : Nat → Int32} {V : Nat → Vd} {U : St} {t n : Nat} {p : Nat → Nat} (h : Qm r V U) (ht : t < 6) (hn : n ≤ 8) (hn2 : 2 ≤ n) (h49 : gI U 49 = nI n) (h73 : ∀ j, j < n → gA U 73 j = nI (p j)) (hp : ∀ j, j < n → p j < 8) : ∀ (m f i : Nat), i + m = n → m < f →
    f_X12_cancel_49 f (nI t) (nI (mnM (btN r V t) n p i)) (nI i) U = f_X12_cancel_104 FU (nI t) (nI (mnF (btN r V t) n p n)) (nI 0) U := by
  intro m
  induction m with
  | zero =>
    intro f i hi hf
    obtain ⟨f, rfl⟩ : ∃ g, f = g + 1 := ⟨f - 1, by omega⟩
    have : i = n := by omega
    subst this
    have e : mnM (btN r V t) i p i = mnF (btN r V t) i p i := if_neg (by omega)
    rw [e, f_X12_cancel_49]
    simp (disch := omega) only [k_let, Option.bind_some, ↓reduceIte, eq_self, true_or, or_true, n01_0, n01_1, kb_or, kb_0T, kb_0F, vn_0, vn_1, vn_k, nl_0, nl_1, nl_2, nl_3, nl_4, nl_5, nl_6, nl_7, nl_8, nl_9, nl_10, nl_11, nl_12, nl_13, nl_14, nl_15, nl_16, nl_20, nl_21, nl_22, nl_23, nl_24, nl_25, nl_26, nl_27, nl_28, nl_29, nl_30, nl_31, nl_32, nl_40, nl_41, nl_42, nl_43, nl_45, nl_47, nl_48, nl_50, nl_57, nl_59, nl_60, nl_61, nl_62, nl_63, nl_64, nl_91, nl_93, nl_94, nl_97, nl_98, nl_100, nl_110, nl_122, nl_130, nl_144, nl_160, nl_240, nl_241, nl_255, nl_256, nl_400, nl_800, nl_900, nl_999, nl_1000, nl_1001, nl_1024, nl_1103, nl_1928, nl_4321, nl_5560, nl_12345, nl_1000000, nl_1000003, nl_252645135, nl_858993459, nl_1431655765, nl_1000000000, nI_add, pk_mul, n_sub, n_neg, n_cl, leT, leF, ltT, ltF, eqT, eqF, kbT, s_II, s_In, s_IJ, s_IA, s_IL, s_IR, s_IC, s_JI, s_JJ, s_Jn, s_JA, s_JL, s_JR, s_JC, s_AI, s_AJ, s_AA, s_An, s_AL, s_AR, s_AC, s_LI, s_LJ, s_LA, s_LL, s_Ln, s_LR, s_LC, h49]
  | succ m ih =>
    intro f i hi hf
    obtain ⟨f, rfl⟩ : ∃ g, f = g + 1 := ⟨f - 1, by omega⟩
    have hin : i < n := by omega
    have a1 := h73 i hin
    have a2 := h73 _ (nxt_lt hin)
    have n8 := nxt_lt hin
    have pb := e_mbt h ht (hp i hin) (hp _ (nxt_lt hin))
    have bd : btN r V t (p i) (p (nxt n i)) ≤ 144 := btF_bd h.1.1 t _ _ (Nat.le_refl _)
    have md := mnF_le (btN r V t) n p i
    have em : nI (i + 1) - nI (i + 1) / nI n * nI n = nI (nxt n i) := by rw [n_mod (by omega) (by omega) (by omega), nxt_mod hin]
    have es : mnF (btN r V t) n p (i + 1) = if btN r V t (p i) (p (nxt n i)) < mnF (btN r V t) n p i then btN r V t (p i) (p (nxt n i)) else mnF (btN r V t) n p i := rfl
    have e1 : mnM (btN r V t) n p (i + 1) = if mnM (btN r V t) n p i ≤ btN r V t (p i) (p (nxt n i)) then mnM (btN r V t) n p i else btN r V t (p i) (p (nxt n i)) := by
      show (if i + 1 = 0 then 1000000 else mnF (btN r V t) n p (i + 1)) = _
      rw [if_neg (by omega), es]
      unfold mnM
      by_cases z : i = 0
      · have m0 : mnF (btN r V t) n p i = 144 := by rw [z]; rfl
        have ky : (if 1000000 ≤ btN r V t (p i) (p (nxt n i)) then 1000000 else btN r V t (p i) (p (nxt n i))) = btN r V t (p i) (p (nxt n i)) := if_neg (by omega)
        rw [if_pos z, ky, m0]
        by_cases c : btN r V t (p i) (p (nxt n i)) < 144
        · rw [if_pos c]
        · rw [if_neg c]; omega
      · rw [if_neg z]
        by_cases c : btN r V t (p i) (p (nxt n i)) < mnF (btN r V t) n p i
        · rw [if_pos c, if_neg (by omega)]
        · rw [if_neg c, if_pos (by omega)]
    have mm : mnM (btN r V t) n p i ≤ 1000000 := by
      unfold mnM
      by_cases z : i = 0
      · rw [if_pos z]; omega
      · rw [if_neg z]; omega
    rw [← ih f (i + 1) (by omega) (by omega), e1, f_X12_cancel_49]
    by_cases c : mnM (btN r V t) n p i ≤ btN r V t (p i) (p (nxt n i))
    · rw [if_pos c]
      simp (disch := omega) only [k_let, Option.bind_some, ↓reduceIte, eq_self, true_or, or_true, n01_0, n01_1, kb_or, kb_0T, kb_0F, vn_0, vn_1, vn_k, nl_0, nl_1, nl_2, nl_3, nl_4, nl_5, nl_6, nl_7, nl_8, nl_9, nl_10, nl_11, nl_12, nl_13, nl_14, nl_15, nl_16, nl_20, nl_21, nl_22, nl_23, nl_24, nl_25, nl_26, nl_27, nl_28, nl_29, nl_30, nl_31, nl_32, nl_40, nl_41, nl_42, nl_43, nl_45, nl_47, nl_48, nl_50, nl_57, nl_59, nl_60, nl_61, nl_62, nl_63, nl_64, nl_91, nl_93, nl_94, nl_97, nl_98, nl_100, nl_110, nl_122, nl_130, nl_144, nl_160, nl_240, nl_241, nl_255, nl_256, nl_400, nl_800, nl_900, nl_999, nl_1000, nl_1001, nl_1024, nl_1103, nl_1928, nl_4321, nl_5560, nl_12345, nl_1000000, nl_1000003, nl_252645135, nl_858993459, nl_1431655765, nl_1000000000, leT, leF, ltT, ltF, eqT, eqF, kbT, nI_add, n_cl, h49, em, a1, a2, ↓b_of pb, not_false_eq_true, f_X12_cancel_95]
    · rw [if_neg c]
      simp (disch := omega) only [k_let, Option.bind_some, ↓reduceIte, eq_self, true_or, or_true, n01_0, n01_1, kb_or, kb_0T, kb_0F, vn_0, vn_1, vn_k, nl_0, nl_1, nl_2, nl_3, nl_4, nl_5, nl_6, nl_7, nl_8, nl_9, nl_10, nl_11, nl_12, nl_13, nl_14, nl_15, nl_16, nl_20, nl_21, nl_22, nl_23, nl_24, nl_25, nl_26, nl_27, nl_28, nl_29, nl_30, nl_31, nl_32, nl_40, nl_41, nl_42, nl_43, nl_45, nl_47, nl_48, nl_50, nl_57, nl_59, nl_60, nl_61, nl_62, nl_63, nl_64, nl_91, nl_93, nl_94, nl_97, nl_98, nl_100, nl_110, nl_122, nl_130, nl_144, nl_160, nl_240, nl_241, nl_255, nl_256, nl_400, nl_800, nl_900, nl_999, nl_1000, nl_1001, nl_1024, nl_1103, nl_1928, nl_4321, nl_5560, nl_12345, nl_1000000, nl_1000003, nl_252645135, nl_858993459, nl_1431655765, nl_1000000000, leT, leF, ltT, ltF, eqT, eqF, kbT, nI_add, n_cl, h49, em, a1, a2, ↓b_of pb, not_false_eq_true, f_X12_cancel_95]
