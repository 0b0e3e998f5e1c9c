/-! part 67: the class hears a law -/
theorem ofn (n : Nat) : Int32.ofNat n = nI n := rfl
def hd1 : Option (List Int) → Bool
  | some (a :: _) => decide (a = 1)
  | _ => false
theorem dC_lo {x y : Int32} {op : Nat} {arg : Int} (h : dC x y = (op, arg)) (h9 : op ≤ 9) : x = nI (op + 4) ∧ arg = y.toInt := by
  unfold dC at h
  by_cases c : x = nI 14 ∨ x = nI 15
  · rw [if_pos c] at h
    by_cases c2 : y = nI (2 * (y.toNatClampNeg / 2))
    · rw [if_pos c2] at h
      by_cases c3 : x = nI 14
      · rw [if_pos c3] at h
        injection h with a b
        omega
      · rw [if_neg c3] at h
        injection h with a b
        omega
    · rw [if_neg c2] at h
      injection h with a b
      omega
  · rw [if_neg c] at h
    by_cases c2 : 4 ≤ x.toInt ∧ x.toInt ≤ 13
    · rw [if_pos c2] at h
      injection h with a b
      refine ⟨?_, b.symm⟩
      obtain ⟨e, -, e2⟩ := n_of (x := x) (by omega)
      rw [e]
      congr 1
      omega
    · rw [if_neg c2] at h
      injection h with a b
      omega
theorem dC_hi {x y : Int32} {op : Nat} {arg : Int} (h : dC x y = (op, arg)) (h9 : op = 10 ∨ op = 11) : x = nI (op + 4) ∧ ∃ k : Nat, arg = k ∧ y = nI (2 * k) ∧ 2 * k < 2147483648 := by
  unfold dC at h
  by_cases c : x = nI 14 ∨ x = nI 15
  · rw [if_pos c] at h
    by_cases c2 : y = nI (2 * (y.toNatClampNeg / 2))
    · rw [if_pos c2] at h
      have hy := Int32.toNatClampNeg_lt y
      by_cases c3 : x = nI 14
      · rw [if_pos c3] at h
        injection h with a b
        rw [← a]
        exact ⟨c3, _, b.symm, c2, by omega⟩
      · rw [if_neg c3] at h
        injection h with a b
        rw [← a]
        exact ⟨c.resolve_left c3, _, b.symm, c2, by omega⟩
    · rw [if_neg c2] at h
      injection h with a b
      omega
  · rw [if_neg c] at h
    by_cases c2 : 4 ≤ x.toInt ∧ x.toInt ≤ 13
    · rw [if_pos c2] at h
      injection h with a b
      omega
    · rw [if_neg c2] at h
      injection h with a b
      omega
theorem DbO.fr {r : Nat → Int32} {U V : St} (h : DbO r U) {ci cj ca cl : List Nat} (f : Fr ci cj ca cl U V) (h2 : ca.contains 21 = false) : DbO r V := fun k hk => by rw [f.A h2]; exact h k hk
theorem kcode_fr {U V : St} {q : Nat} {x : Nat × (Nat → Int32)} (h : k_code U q = some x) {ci cj ca cl : List Nat} (f : Fr ci cj ca cl U V) : k_code V q = some x := by
  unfold k_code at *
  rw [f.2.2.2.2.2]
  exact h
theorem hj_end {U : St} {a : Nat → Int32} {st : List Int} {d q len tp p s f : Nat} (hk : k_code U q = some (len, a)) (hlen : len ≤ 800) (htp : 2 * tp ≤ len) (hp : p ≤ 1000) (h : tp ≤ p) (hs : s ≤ p) (hS : StkC U st) (hL : st.length ≤ 64) : f_X3_holds_11 (f + 1) q (nI (2 * tp)) (nI d) (nI (2 * p)) (nI s) U = some (kB (hd1 (some st)), U) := by
  have e : f_X3_holds_11 (f + 1) q (nI (2 * tp)) (nI d) (nI (2 * p)) (nI s) U = f_X3_holds_182 U := by
    rw [f_X3_holds_11]
    by_cases c : len ≤ s
    · simp (disch := omega) only [k_let, Option.bind_some, ↓reduceIte, eq_self, true_or, or_true, n01_0, n01_1, kb_or, kb_0T, kb_0F, vn_0, vn_1, vn_k, nl_0, nl_1, nl_2, nl_3, nl_4, nl_5, nl_6, nl_7, nl_8, nl_9, nl_10, nl_11, nl_12, nl_13, nl_14, nl_15, nl_16, nl_20, nl_21, nl_22, nl_23, nl_24, nl_25, nl_26, nl_27, nl_28, nl_29, nl_30, nl_31, nl_32, nl_40, nl_41, nl_42, nl_43, nl_45, nl_47, nl_48, nl_50, nl_57, nl_59, nl_60, nl_61, nl_62, nl_63, nl_64, nl_91, nl_93, nl_94, nl_97, nl_98, nl_100, nl_110, nl_122, nl_130, nl_144, nl_160, nl_240, nl_241, nl_255, nl_256, nl_400, nl_800, nl_900, nl_999, nl_1000, nl_1001, nl_1024, nl_1103, nl_1928, nl_4321, nl_5560, nl_12345, nl_1000000, nl_1000003, nl_252645135, nl_858993459, nl_1431655765, nl_1000000000, nI_add, pk_mul, n_sub, n_neg, n_cl, leT, leF, ltT, ltF, eqT, eqF, kbT, s_II, s_In, s_IJ, s_IA, s_IL, s_IR, s_IC, s_JI, s_JJ, s_Jn, s_JA, s_JL, s_JR, s_JC, s_AI, s_AJ, s_AA, s_An, s_AL, s_AR, s_AC, s_LI, s_LJ, s_LA, s_LL, s_Ln, s_LR, s_LC, hk, ofn]
    · simp (disch := omega) only [k_let, Option.bind_some, ↓reduceIte, eq_self, true_or, or_true, n01_0, n01_1, kb_or, kb_0T, kb_0F, vn_0, vn_1, vn_k, nl_0, nl_1, nl_2, nl_3, nl_4, nl_5, nl_6, nl_7, nl_8, nl_9, nl_10, nl_11, nl_12, nl_13, nl_14, nl_15, nl_16, nl_20, nl_21, nl_22, nl_23, nl_24, nl_25, nl_26, nl_27, nl_28, nl_29, nl_30, nl_31, nl_32, nl_40, nl_41, nl_42, nl_43, nl_45, nl_47, nl_48, nl_50, nl_57, nl_59, nl_60, nl_61, nl_62, nl_63, nl_64, nl_91, nl_93, nl_94, nl_97, nl_98, nl_100, nl_110, nl_122, nl_130, nl_144, nl_160, nl_240, nl_241, nl_255, nl_256, nl_400, nl_800, nl_900, nl_999, nl_1000, nl_1001, nl_1024, nl_1103, nl_1928, nl_4321, nl_5560, nl_12345, nl_1000000, nl_1000003, nl_252645135, nl_858993459, nl_1431655765, nl_1000000000, nI_add, pk_mul, n_sub, n_neg, n_cl, leT, leF, ltT, ltF, eqT, eqF, kbT, s_II, s_In, s_IJ, s_IA, s_IL, s_IR, s_IC, s_JI, s_JJ, s_Jn, s_JA, s_JL, s_JR, s_JC, s_AI, s_AJ, s_AA, s_An, s_AL, s_AR, s_AC, s_LI, s_LJ, s_LA, s_LL, s_Ln, s_LR, s_LC, hk, ofn]
  rw [e]
  unfold f_X3_holds_182 f_X3_holds_195
  cases st with
  | nil =>
    have h1 : gI U 9 = nI 0 := hS.1
    simp (disch := omega) only [k_let, Option.bind_some, ↓reduceIte, eq_self, true_or, or_true, n01_0, n01_1, kb_or, kb_0T, kb_0F, vn_0, vn_1, vn_k, nl_0, nl_1, nl_2, nl_3, nl_4, nl_5, nl_6, nl_7, nl_8, nl_9, nl_10, nl_11, nl_12, nl_13, nl_14, nl_15, nl_16, nl_20, nl_21, nl_22, nl_23, nl_24, nl_25, nl_26, nl_27, nl_28, nl_29, nl_30, nl_31, nl_32, nl_40, nl_41, nl_42, nl_43, nl_45, nl_47, nl_48, nl_50, nl_57, nl_59, nl_60, nl_61, nl_62, nl_63, nl_64, nl_91, nl_93, nl_94, nl_97, nl_98, nl_100, nl_110, nl_122, nl_130, nl_144, nl_160, nl_240, nl_241, nl_255, nl_256, nl_400, nl_800, nl_900, nl_999, nl_1000, nl_1001, nl_1024, nl_1103, nl_1928, nl_4321, nl_5560, nl_12345, nl_1000000, nl_1000003, nl_252645135, nl_858993459, nl_1431655765, nl_1000000000, nI_add, pk_mul, n_sub, n_neg, n_cl, leT, leF, ltT, ltF, eqT, eqF, kbT, s_II, s_In, s_IJ, s_IA, s_IL, s_IR, s_IC, s_JI, s_JJ, s_Jn, s_JA, s_JL, s_JR, s_JC, s_AI, s_AJ, s_AA, s_An, s_AL, s_AR, s_AC, s_LI, s_LJ, s_LA, s_LL, s_Ln, s_LR, s_LC, f_X3_top, f_X3_top_30, f_X3_top_31, h1, hd1, kB_f]
  | cons v st =>
    have hv := hS.2.2 v List.mem_cons_self
    have h1 := hv.1
    have h2 := hv.2
    have hL' : st.length < 64 := hL
    by_cases c : v = 1
    · subst c
      simp (disch := omega) only [k_let, Option.bind_some, ↓reduceIte, eq_self, true_or, or_true, n01_0, n01_1, kb_or, kb_0T, kb_0F, vn_0, vn_1, vn_k, nl_0, nl_1, nl_2, nl_3, nl_4, nl_5, nl_6, nl_7, nl_8, nl_9, nl_10, nl_11, nl_12, nl_13, nl_14, nl_15, nl_16, nl_20, nl_21, nl_22, nl_23, nl_24, nl_25, nl_26, nl_27, nl_28, nl_29, nl_30, nl_31, nl_32, nl_40, nl_41, nl_42, nl_43, nl_45, nl_47, nl_48, nl_50, nl_57, nl_59, nl_60, nl_61, nl_62, nl_63, nl_64, nl_91, nl_93, nl_94, nl_97, nl_98, nl_100, nl_110, nl_122, nl_130, nl_144, nl_160, nl_240, nl_241, nl_255, nl_256, nl_400, nl_800, nl_900, nl_999, nl_1000, nl_1001, nl_1024, nl_1103, nl_1928, nl_4321, nl_5560, nl_12345, nl_1000000, nl_1000003, nl_252645135, nl_858993459, nl_1431655765, nl_1000000000, nI_add, pk_mul, n_sub, n_neg, n_cl, leT, leF, ltT, ltF, eqT, eqF, kbT, s_II, s_In, s_IJ, s_IA, s_IL, s_IR, s_IC, s_JI, s_JJ, s_Jn, s_JA, s_JL, s_JR, s_JC, s_AI, s_AJ, s_AA, s_An, s_AL, s_AR, s_AC, s_LI, s_LJ, s_LA, s_LL, s_Ln, s_LR, s_LC, zleT, zleF, zltT, zltF, zeqT, zeqF, nzleT, nzleF, nzltT, nzltF, nzeqT, nzeqF, znleT, znleF, znltT, znltF, zneqT, zneqF, z_add, z_sub, z_mul, z_neg, z_an, z_na, z_sn, z_ns, z_mn, z_nm, e_top hS hL', hd1, decide_true, kB_t]
    · simp (disch := omega) only [k_let, Option.bind_some, ↓reduceIte, eq_self, true_or, or_true, n01_0, n01_1, kb_or, kb_0T, kb_0F, vn_0, vn_1, vn_k, nl_0, nl_1, nl_2, nl_3, nl_4, nl_5, nl_6, nl_7, nl_8, nl_9, nl_10, nl_11, nl_12, nl_13, nl_14, nl_15, nl_16, nl_20, nl_21, nl_22, nl_23, nl_24, nl_25, nl_26, nl_27, nl_28, nl_29, nl_30, nl_31, nl_32, nl_40, nl_41, nl_42, nl_43, nl_45, nl_47, nl_48, nl_50, nl_57, nl_59, nl_60, nl_61, nl_62, nl_63, nl_64, nl_91, nl_93, nl_94, nl_97, nl_98, nl_100, nl_110, nl_122, nl_130, nl_144, nl_160, nl_240, nl_241, nl_255, nl_256, nl_400, nl_800, nl_900, nl_999, nl_1000, nl_1001, nl_1024, nl_1103, nl_1928, nl_4321, nl_5560, nl_12345, nl_1000000, nl_1000003, nl_252645135, nl_858993459, nl_1431655765, nl_1000000000, nI_add, pk_mul, n_sub, n_neg, n_cl, leT, leF, ltT, ltF, eqT, eqF, kbT, s_II, s_In, s_IJ, s_IA, s_IL, s_IR, s_IC, s_JI, s_JJ, s_Jn, s_JA, s_JL, s_JR, s_JC, s_AI, s_AJ, s_AA, s_An, s_AL, s_AR, s_AC, s_LI, s_LJ, s_LA, s_LL, s_Ln, s_LR, s_LC, zleT, zleF, zltT, zltF, zeqT, zeqF, nzleT, nzleF, nzltT, nzltF, nzeqT, nzeqF, znleT, znleF, znltT, znltF, zneqT, zneqF, z_add, z_sub, z_mul, z_neg, z_an, z_na, z_sn, z_ns, z_mn, z_nm, e_top hS hL', hd1, c, decide_false, kB_f]
theorem bd_some {v : Option Int} {k : Int → Ro} {res : Option (List Int)} (h : bd v k = some res) : (v = none ∧ res = none) ∨ ∃ x, v = some x ∧ k x = some res := by
  cases v with
  | none => exact Or.inl ⟨rfl, (Option.some.inj h).symm⟩
  | some x => exact Or.inr ⟨x, rfl, h⟩
set_option maxHeartbeats 16000000 in
theorem hj_holds {r a : Nat → Int32} {d q len tp : Nat} (hd : d < nD r) (hlen : len ≤ 800) (htp : 2 * tp ≤ len) : ∀ (n p : Nat) (st : List Int) (U : St) (f s : Nat) (res : Option (List Int)), rn (Fc a) (envD r d) 64 n p tp st = some res → Ic r U → DbO r U → k_code U q = some (len, a) → StkC U st → st.length ≤ 64 → s ≤ p → n < f → p ≤ 1000 →
    ∃ V, Fr [9] [] [22] [] U V ∧ f_X3_holds_11 f q (nI (2 * tp)) (nI d) (nI (2 * p)) (nI s) U = some (kB (hd1 res), V) ∧ ∀ st', res = some st' → StkC V st' := by
  intro n
  induction n with
  | zero =>
    intro p st U f s res hr hI hO hk hS hL hs hf hp
    obtain ⟨f, rfl⟩ : ∃ g, f = g + 1 := ⟨f - 1, by omega⟩
    by_cases c : tp ≤ p
    · rw [rn_end c] at hr
      cases hr
      exact ⟨U, Fr.refl U, hj_end hk hlen htp hp c hs hS hL, fun st' h => by cases h; exact hS⟩
    · exact absurd hr (by show ¬ (if tp ≤ p then _ else _) = _; rw [if_neg c]; intro h; cases h)
  | succ n ih =>
    intro p st U f s res hr hI hO hk hS hL hs hf hp
    obtain ⟨f, rfl⟩ : ∃ g, f = g + 1 := ⟨f - 1, by omega⟩
    by_cases c : tp ≤ p
    · rw [rn_end c] at hr
      cases hr
      exact ⟨U, Fr.refl U, hj_end hk hlen htp hp c hs hS hL, fun st' h => by cases h; exact hS⟩
    · rw [rn_go (by omega)] at hr
      have e2 : 2 * p + 2 = 2 * (p + 1) := by omega
      have hk' : ∀ {V : St}, Fr [9] [] [22] [] U V → k_code V q = some (len, a) := fun f => kcode_fr hk f
      have go : ∀ {V : St} {st1 : List Int} {p1 : Nat}, Fr [9] [] [22] [] U V → StkC V st1 → st1.length ≤ 64 → p < p1 → p1 ≤ 1000 → rn (Fc a) (envD r d) 64 n p1 tp st1 = some res → ∃ W, Fr [9] [] [22] [] U W ∧ f_X3_holds_11 f q (nI (2 * tp)) (nI d) (nI (2 * p1)) (nI (s + 1)) V = some (kB (hd1 res), W) ∧ ∀ st', res = some st' → StkC W st' := fun {V st1 p1} fV hS1 hL1 hp1 hp2 hr1 => by
        obtain ⟨W, w1, w2, w3⟩ := ih p1 st1 V f (s + 1) res hr1 (hI.fr fV rfl rfl) (hO.fr fV rfl) (hk' fV) hS1 hL1 (by omega) (by omega) hp2
        exact ⟨W, fV.trans w1, w2, w3⟩
      cases hF : Fc a p with
      | mk op arg =>
      rw [hF] at hr
      replace hr : rn1 (envD r d) 64 p op arg st _ = some res := hr
      unfold rn1 at hr
      unfold Fc at hF
      by_cases o0 : op = 0
      · rw [if_pos o0] at hr
        obtain ⟨hx, ha⟩ := dC_lo hF (by omega)
        rw [o0] at hx
        by_cases cl : st.length < 64 ∧ -1000000000 ≤ arg ∧ arg ≤ 1000000000
        · rw [if_pos cl] at hr
          obtain ⟨V, v1, v2, v3⟩ := e_push hS cl.1 (v := arg) cl.2
          obtain ⟨W, w1, w2, w3⟩ := go v2 v3 cl.1 (show p < p + 1 by omega) (by omega) hr
          refine ⟨W, w1, ?_, w3⟩
          rw [← w2, f_X3_holds_11]
          have hy : a (2 * p + 1) = iZ arg := by rw [ha]; exact z_of _
          simp (maxSteps := 1000000) (disch := omega) only [k_let, Option.bind_some, ↓reduceIte, eq_self, true_or, or_true, n01_0, n01_1, kb_or, kb_0T, kb_0F, vn_0, vn_1, vn_k, nl_0, nl_1, nl_2, nl_3, nl_4, nl_5, nl_6, nl_7, nl_8, nl_9, nl_10, nl_11, nl_12, nl_13, nl_14, nl_15, nl_16, nl_20, nl_21, nl_22, nl_23, nl_24, nl_25, nl_26, nl_27, nl_28, nl_29, nl_30, nl_31, nl_32, nl_40, nl_41, nl_42, nl_43, nl_45, nl_47, nl_48, nl_50, nl_57, nl_59, nl_60, nl_61, nl_62, nl_63, nl_64, nl_91, nl_93, nl_94, nl_97, nl_98, nl_100, nl_110, nl_122, nl_130, nl_144, nl_160, nl_240, nl_241, nl_255, nl_256, nl_400, nl_800, nl_900, nl_999, nl_1000, nl_1001, nl_1024, nl_1103, nl_1928, nl_4321, nl_5560, nl_12345, nl_1000000, nl_1000003, nl_252645135, nl_858993459, nl_1431655765, nl_1000000000, nI_add, pk_mul, n_sub, n_neg, n_cl, leT, leF, ltT, ltF, eqT, eqF, kbT, s_II, s_In, s_IJ, s_IA, s_IL, s_IR, s_IC, s_JI, s_JJ, s_Jn, s_JA, s_JL, s_JR, s_JC, s_AI, s_AJ, s_AA, s_An, s_AL, s_AR, s_AC, s_LI, s_LJ, s_LA, s_LL, s_Ln, s_LR, s_LC, hk, ofn, hx, hy, v1, f_X3_holds_176, e2]
        · rw [if_neg cl] at hr; cases hr
      rw [if_neg o0] at hr
      by_cases o1 : op = 1
      · rw [if_pos o1] at hr
        obtain ⟨hx, ha⟩ := dC_lo hF (by omega)
        rw [o1] at hx
        by_cases cl : st.length < 64 ∧ 0 ≤ arg ∧ arg < 7
        · rw [if_pos cl] at hr
          obtain ⟨w, rfl⟩ : ∃ w : Nat, arg = w := ⟨arg.toNat, by omega⟩
          have hE := envOk hI.1 hd w (by omega)
          obtain ⟨V, v1, v2, v3⟩ := e_push hS cl.1 (v := envD r d w) ⟨by omega, by omega⟩
          obtain ⟨W, w1, w2, w3⟩ := go v2 v3 cl.1 (show p < p + 1 by omega) (by omega) hr
          refine ⟨W, w1, ?_, w3⟩
          rw [← w2, f_X3_holds_11]
          have hy : a (2 * p + 1) = nI w := by rw [z_of (a (2 * p + 1)), ← ha, n_Z]
          simp (maxSteps := 1000000) (disch := omega) only [k_let, Option.bind_some, ↓reduceIte, eq_self, true_or, or_true, n01_0, n01_1, kb_or, kb_0T, kb_0F, vn_0, vn_1, vn_k, nl_0, nl_1, nl_2, nl_3, nl_4, nl_5, nl_6, nl_7, nl_8, nl_9, nl_10, nl_11, nl_12, nl_13, nl_14, nl_15, nl_16, nl_20, nl_21, nl_22, nl_23, nl_24, nl_25, nl_26, nl_27, nl_28, nl_29, nl_30, nl_31, nl_32, nl_40, nl_41, nl_42, nl_43, nl_45, nl_47, nl_48, nl_50, nl_57, nl_59, nl_60, nl_61, nl_62, nl_63, nl_64, nl_91, nl_93, nl_94, nl_97, nl_98, nl_100, nl_110, nl_122, nl_130, nl_144, nl_160, nl_240, nl_241, nl_255, nl_256, nl_400, nl_800, nl_900, nl_999, nl_1000, nl_1001, nl_1024, nl_1103, nl_1928, nl_4321, nl_5560, nl_12345, nl_1000000, nl_1000003, nl_252645135, nl_858993459, nl_1431655765, nl_1000000000, nI_add, pk_mul, n_sub, n_neg, n_cl, leT, leF, ltT, ltF, eqT, eqF, kbT, s_II, s_In, s_IJ, s_IA, s_IL, s_IR, s_IC, s_JI, s_JJ, s_Jn, s_JA, s_JL, s_JR, s_JC, s_AI, s_AJ, s_AA, s_An, s_AL, s_AR, s_AC, s_LI, s_LJ, s_LA, s_LL, s_Ln, s_LR, s_LC, hk, ofn, hx, hy, e_wordOf hI hO hd, v1, f_X3_holds_176, e2]
        · rw [if_neg cl] at hr; cases hr
      rw [if_neg o1] at hr
      by_cases o9 : op = 9
      · rw [if_pos o9] at hr
        obtain ⟨hx, ha⟩ := dC_lo hF (by omega)
        rw [o9] at hx
        cases st with
        | nil => cases hr
        | cons v st =>
          replace hr : (if v = 0 ∨ v = 1 then _ else _) = some res := hr
          by_cases cv : v = 0 ∨ v = 1
          · rw [if_pos cv] at hr
            have hL' : st.length < 64 := hL
            obtain ⟨V1, a1, a2, a3⟩ := e_pop hS hL'
            obtain ⟨V, v1, v2, v3⟩ := e_push a3 hL' (v := 1 - v) ⟨by omega, by omega⟩
            obtain ⟨W, w1, w2, w3⟩ := go (a2.trans v2) v3 hL (show p < p + 1 by omega) (by omega) hr
            refine ⟨W, w1, ?_, w3⟩
            rw [← w2, f_X3_holds_11]
            have hz : nI 1 - iZ v = iZ (1 - v) := by rw [n_Z, z_sub]; rfl
            simp (maxSteps := 1000000) (disch := omega) only [k_let, Option.bind_some, ↓reduceIte, eq_self, true_or, or_true, n01_0, n01_1, kb_or, kb_0T, kb_0F, vn_0, vn_1, vn_k, nl_0, nl_1, nl_2, nl_3, nl_4, nl_5, nl_6, nl_7, nl_8, nl_9, nl_10, nl_11, nl_12, nl_13, nl_14, nl_15, nl_16, nl_20, nl_21, nl_22, nl_23, nl_24, nl_25, nl_26, nl_27, nl_28, nl_29, nl_30, nl_31, nl_32, nl_40, nl_41, nl_42, nl_43, nl_45, nl_47, nl_48, nl_50, nl_57, nl_59, nl_60, nl_61, nl_62, nl_63, nl_64, nl_91, nl_93, nl_94, nl_97, nl_98, nl_100, nl_110, nl_122, nl_130, nl_144, nl_160, nl_240, nl_241, nl_255, nl_256, nl_400, nl_800, nl_900, nl_999, nl_1000, nl_1001, nl_1024, nl_1103, nl_1928, nl_4321, nl_5560, nl_12345, nl_1000000, nl_1000003, nl_252645135, nl_858993459, nl_1431655765, nl_1000000000, nI_add, pk_mul, n_sub, n_neg, n_cl, leT, leF, ltT, ltF, eqT, eqF, kbT, s_II, s_In, s_IJ, s_IA, s_IL, s_IR, s_IC, s_JI, s_JJ, s_Jn, s_JA, s_JL, s_JR, s_JC, s_AI, s_AJ, s_AA, s_An, s_AL, s_AR, s_AC, s_LI, s_LJ, s_LA, s_LL, s_Ln, s_LR, s_LC, hk, ofn, hx, e_top hS hL', a1, hz, v1, f_X3_holds_176, e2]
          · rw [if_neg cv] at hr; cases hr
      rw [if_neg o9] at hr
      by_cases oj : op = 10 ∨ op = 11
      · obtain ⟨hx, k, ha, hy, hk2⟩ := dC_hi hF oj
        have main : ∃ v st', st = v :: st' ∧ p + 1 ≤ k ∧ (if v = (if op = 10 then 1 else 0) then rn (Fc a) (envD r d) 64 n k tp (v :: st') else rn (Fc a) (envD r d) 64 n (p + 1) tp st') = some res := by
          rcases oj with rfl | rfl
          · rw [if_pos rfl] at hr
            cases st with
            | nil => cases hr
            | cons v st =>
              replace hr : (if (p : Int) + 1 ≤ arg then _ else _) = some res := hr
              by_cases cp : (p : Int) + 1 ≤ arg
              · rw [if_pos cp, ha] at hr
                exact ⟨v, st, rfl, by omega, hr⟩
              · rw [if_neg cp] at hr; cases hr
          · rw [if_neg (by decide), if_pos rfl] at hr
            cases st with
            | nil => cases hr
            | cons v st =>
              replace hr : (if (p : Int) + 1 ≤ arg then _ else _) = some res := hr
              by_cases cp : (p : Int) + 1 ≤ arg
              · rw [if_pos cp, ha] at hr
                exact ⟨v, st, rfl, by omega, hr⟩
              · rw [if_neg cp] at hr; cases hr
        obtain ⟨v, st', rfl, hkp, hr⟩ := main
        have hL' : st'.length < 64 := hL
        have hv := hS.2.2 v List.mem_cons_self
        have hv1 := hv.1
        have hv2 := hv.2
        have kk : k ≤ 1000 ∨ 1000 < k := by omega
        by_cases cv : v = (if op = 10 then 1 else 0)
        · rw [if_pos cv] at hr
          have hrun : ∃ W, Fr [9] [] [22] [] U W ∧ f_X3_holds_11 f q (nI (2 * tp)) (nI d) (nI (2 * k)) (nI (s + 1)) U = some (kB (hd1 res), W) ∧ ∀ st', res = some st' → StkC W st' := by
            rcases kk with kk | kk
            · exact go (Fr.refl U) hS hL (by omega) kk hr
            · rw [rn_end (by omega)] at hr
              cases hr
              obtain ⟨f, rfl⟩ : ∃ g, f = g + 1 := ⟨f - 1, by omega⟩
              refine ⟨U, Fr.refl U, ?_, fun st' h => by cases h; exact hS⟩
              have e : f_X3_holds_11 (f + 1) q (nI (2 * tp)) (nI d) (nI (2 * k)) (nI (s + 1)) U = f_X3_holds_11 (f + 1) q (nI (2 * tp)) (nI d) (nI (2 * 1000)) (nI (s + 1)) U := by
                rw [f_X3_holds_11, f_X3_holds_11]
                by_cases c2 : len ≤ s + 1
                · simp (disch := omega) only [k_let, Option.bind_some, ↓reduceIte, eq_self, true_or, or_true, n01_0, n01_1, kb_or, kb_0T, kb_0F, vn_0, vn_1, vn_k, nl_0, nl_1, nl_2, nl_3, nl_4, nl_5, nl_6, nl_7, nl_8, nl_9, nl_10, nl_11, nl_12, nl_13, nl_14, nl_15, nl_16, nl_20, nl_21, nl_22, nl_23, nl_24, nl_25, nl_26, nl_27, nl_28, nl_29, nl_30, nl_31, nl_32, nl_40, nl_41, nl_42, nl_43, nl_45, nl_47, nl_48, nl_50, nl_57, nl_59, nl_60, nl_61, nl_62, nl_63, nl_64, nl_91, nl_93, nl_94, nl_97, nl_98, nl_100, nl_110, nl_122, nl_130, nl_144, nl_160, nl_240, nl_241, nl_255, nl_256, nl_400, nl_800, nl_900, nl_999, nl_1000, nl_1001, nl_1024, nl_1103, nl_1928, nl_4321, nl_5560, nl_12345, nl_1000000, nl_1000003, nl_252645135, nl_858993459, nl_1431655765, nl_1000000000, nI_add, pk_mul, n_sub, n_neg, n_cl, leT, leF, ltT, ltF, eqT, eqF, kbT, s_II, s_In, s_IJ, s_IA, s_IL, s_IR, s_IC, s_JI, s_JJ, s_Jn, s_JA, s_JL, s_JR, s_JC, s_AI, s_AJ, s_AA, s_An, s_AL, s_AR, s_AC, s_LI, s_LJ, s_LA, s_LL, s_Ln, s_LR, s_LC, hk, ofn]
                · simp (disch := omega) only [k_let, Option.bind_some, ↓reduceIte, eq_self, true_or, or_true, n01_0, n01_1, kb_or, kb_0T, kb_0F, vn_0, vn_1, vn_k, nl_0, nl_1, nl_2, nl_3, nl_4, nl_5, nl_6, nl_7, nl_8, nl_9, nl_10, nl_11, nl_12, nl_13, nl_14, nl_15, nl_16, nl_20, nl_21, nl_22, nl_23, nl_24, nl_25, nl_26, nl_27, nl_28, nl_29, nl_30, nl_31, nl_32, nl_40, nl_41, nl_42, nl_43, nl_45, nl_47, nl_48, nl_50, nl_57, nl_59, nl_60, nl_61, nl_62, nl_63, nl_64, nl_91, nl_93, nl_94, nl_97, nl_98, nl_100, nl_110, nl_122, nl_130, nl_144, nl_160, nl_240, nl_241, nl_255, nl_256, nl_400, nl_800, nl_900, nl_999, nl_1000, nl_1001, nl_1024, nl_1103, nl_1928, nl_4321, nl_5560, nl_12345, nl_1000000, nl_1000003, nl_252645135, nl_858993459, nl_1431655765, nl_1000000000, nI_add, pk_mul, n_sub, n_neg, n_cl, leT, leF, ltT, ltF, eqT, eqF, kbT, s_II, s_In, s_IJ, s_IA, s_IL, s_IR, s_IC, s_JI, s_JJ, s_Jn, s_JA, s_JL, s_JR, s_JC, s_AI, s_AJ, s_AA, s_An, s_AL, s_AR, s_AC, s_LI, s_LJ, s_LA, s_LL, s_Ln, s_LR, s_LC, hk, ofn]
              rw [e]
              exact hj_end hk hlen htp (by omega) (by omega) (by omega) hS hL
          obtain ⟨W, w1, w2, w3⟩ := hrun
          refine ⟨W, w1, ?_, w3⟩
          rw [← w2, f_X3_holds_11]
          have hmx : (if nI (2 * p + 2) < nI (2 * k) then nI (2 * k) else nI (2 * p + 2)) = nI (2 * k) := by
            by_cases cx : 2 * p + 2 < 2 * k
            · simp (disch := omega) only [leT, leF, ltT, ltF, eqT, eqF, kbT, ↓reduceIte]
            · simp (disch := omega) only [leT, leF, ltT, ltF, eqT, eqF, kbT, ↓reduceIte]
          rcases oj with rfl | rfl
          · replace cv : v = 1 := cv
            subst cv
            simp (maxSteps := 1000000) (disch := omega) only [k_let, Option.bind_some, ↓reduceIte, eq_self, true_or, or_true, n01_0, n01_1, kb_or, kb_0T, kb_0F, vn_0, vn_1, vn_k, nl_0, nl_1, nl_2, nl_3, nl_4, nl_5, nl_6, nl_7, nl_8, nl_9, nl_10, nl_11, nl_12, nl_13, nl_14, nl_15, nl_16, nl_20, nl_21, nl_22, nl_23, nl_24, nl_25, nl_26, nl_27, nl_28, nl_29, nl_30, nl_31, nl_32, nl_40, nl_41, nl_42, nl_43, nl_45, nl_47, nl_48, nl_50, nl_57, nl_59, nl_60, nl_61, nl_62, nl_63, nl_64, nl_91, nl_93, nl_94, nl_97, nl_98, nl_100, nl_110, nl_122, nl_130, nl_144, nl_160, nl_240, nl_241, nl_255, nl_256, nl_400, nl_800, nl_900, nl_999, nl_1000, nl_1001, nl_1024, nl_1103, nl_1928, nl_4321, nl_5560, nl_12345, nl_1000000, nl_1000003, nl_252645135, nl_858993459, nl_1431655765, nl_1000000000, nI_add, pk_mul, n_sub, n_neg, n_cl, leT, leF, ltT, ltF, eqT, eqF, kbT, s_II, s_In, s_IJ, s_IA, s_IL, s_IR, s_IC, s_JI, s_JJ, s_Jn, s_JA, s_JL, s_JR, s_JC, s_AI, s_AJ, s_AA, s_An, s_AL, s_AR, s_AC, s_LI, s_LJ, s_LA, s_LL, s_Ln, s_LR, s_LC, zleT, zleF, zltT, zltF, zeqT, zeqF, nzleT, nzleF, nzltT, nzltF, nzeqT, nzeqF, znleT, znleF, znltT, znltF, zneqT, zneqF, z_add, z_sub, z_mul, z_neg, z_an, z_na, z_sn, z_ns, z_mn, z_nm, hk, ofn, hx, hy, e_top hS hL', f_X3_holds_99, f_X3_holds_115, f_X3_holds_176, hmx]
          · replace cv : v = 0 := cv
            subst cv
            simp (maxSteps := 1000000) (disch := omega) only [k_let, Option.bind_some, ↓reduceIte, eq_self, true_or, or_true, n01_0, n01_1, kb_or, kb_0T, kb_0F, vn_0, vn_1, vn_k, nl_0, nl_1, nl_2, nl_3, nl_4, nl_5, nl_6, nl_7, nl_8, nl_9, nl_10, nl_11, nl_12, nl_13, nl_14, nl_15, nl_16, nl_20, nl_21, nl_22, nl_23, nl_24, nl_25, nl_26, nl_27, nl_28, nl_29, nl_30, nl_31, nl_32, nl_40, nl_41, nl_42, nl_43, nl_45, nl_47, nl_48, nl_50, nl_57, nl_59, nl_60, nl_61, nl_62, nl_63, nl_64, nl_91, nl_93, nl_94, nl_97, nl_98, nl_100, nl_110, nl_122, nl_130, nl_144, nl_160, nl_240, nl_241, nl_255, nl_256, nl_400, nl_800, nl_900, nl_999, nl_1000, nl_1001, nl_1024, nl_1103, nl_1928, nl_4321, nl_5560, nl_12345, nl_1000000, nl_1000003, nl_252645135, nl_858993459, nl_1431655765, nl_1000000000, nI_add, pk_mul, n_sub, n_neg, n_cl, leT, leF, ltT, ltF, eqT, eqF, kbT, s_II, s_In, s_IJ, s_IA, s_IL, s_IR, s_IC, s_JI, s_JJ, s_Jn, s_JA, s_JL, s_JR, s_JC, s_AI, s_AJ, s_AA, s_An, s_AL, s_AR, s_AC, s_LI, s_LJ, s_LA, s_LL, s_Ln, s_LR, s_LC, zleT, zleF, zltT, zltF, zeqT, zeqF, nzleT, nzleF, nzltT, nzltF, nzeqT, nzeqF, znleT, znleF, znltT, znltF, zneqT, zneqF, z_add, z_sub, z_mul, z_neg, z_an, z_na, z_sn, z_ns, z_mn, z_nm, hk, ofn, hx, hy, e_top hS hL', f_X3_holds_99, f_X3_holds_115, f_X3_holds_176, hmx]
        · rw [if_neg cv] at hr
          obtain ⟨V, a1, a2, a3⟩ := e_pop hS hL'
          obtain ⟨W, w1, w2, w3⟩ := go a2 a3 (by omega) (show p < p + 1 by omega) (by omega) hr
          refine ⟨W, w1, ?_, w3⟩
          rw [← w2, f_X3_holds_11]
          rcases oj with rfl | rfl
          · replace cv : ¬ v = 1 := cv
            simp (maxSteps := 1000000) (disch := omega) only [k_let, Option.bind_some, ↓reduceIte, eq_self, true_or, or_true, n01_0, n01_1, kb_or, kb_0T, kb_0F, vn_0, vn_1, vn_k, nl_0, nl_1, nl_2, nl_3, nl_4, nl_5, nl_6, nl_7, nl_8, nl_9, nl_10, nl_11, nl_12, nl_13, nl_14, nl_15, nl_16, nl_20, nl_21, nl_22, nl_23, nl_24, nl_25, nl_26, nl_27, nl_28, nl_29, nl_30, nl_31, nl_32, nl_40, nl_41, nl_42, nl_43, nl_45, nl_47, nl_48, nl_50, nl_57, nl_59, nl_60, nl_61, nl_62, nl_63, nl_64, nl_91, nl_93, nl_94, nl_97, nl_98, nl_100, nl_110, nl_122, nl_130, nl_144, nl_160, nl_240, nl_241, nl_255, nl_256, nl_400, nl_800, nl_900, nl_999, nl_1000, nl_1001, nl_1024, nl_1103, nl_1928, nl_4321, nl_5560, nl_12345, nl_1000000, nl_1000003, nl_252645135, nl_858993459, nl_1431655765, nl_1000000000, nI_add, pk_mul, n_sub, n_neg, n_cl, leT, leF, ltT, ltF, eqT, eqF, kbT, s_II, s_In, s_IJ, s_IA, s_IL, s_IR, s_IC, s_JI, s_JJ, s_Jn, s_JA, s_JL, s_JR, s_JC, s_AI, s_AJ, s_AA, s_An, s_AL, s_AR, s_AC, s_LI, s_LJ, s_LA, s_LL, s_Ln, s_LR, s_LC, zleT, zleF, zltT, zltF, zeqT, zeqF, nzleT, nzleF, nzltT, nzltF, nzeqT, nzeqF, znleT, znleF, znltT, znltF, zneqT, zneqF, z_add, z_sub, z_mul, z_neg, z_an, z_na, z_sn, z_ns, z_mn, z_nm, hk, ofn, hx, hy, e_top hS hL', f_X3_holds_99, f_X3_holds_115, f_X3_holds_176, a1, e2]
          · replace cv : ¬ v = 0 := cv
            simp (maxSteps := 1000000) (disch := omega) only [k_let, Option.bind_some, ↓reduceIte, eq_self, true_or, or_true, n01_0, n01_1, kb_or, kb_0T, kb_0F, vn_0, vn_1, vn_k, nl_0, nl_1, nl_2, nl_3, nl_4, nl_5, nl_6, nl_7, nl_8, nl_9, nl_10, nl_11, nl_12, nl_13, nl_14, nl_15, nl_16, nl_20, nl_21, nl_22, nl_23, nl_24, nl_25, nl_26, nl_27, nl_28, nl_29, nl_30, nl_31, nl_32, nl_40, nl_41, nl_42, nl_43, nl_45, nl_47, nl_48, nl_50, nl_57, nl_59, nl_60, nl_61, nl_62, nl_63, nl_64, nl_91, nl_93, nl_94, nl_97, nl_98, nl_100, nl_110, nl_122, nl_130, nl_144, nl_160, nl_240, nl_241, nl_255, nl_256, nl_400, nl_800, nl_900, nl_999, nl_1000, nl_1001, nl_1024, nl_1103, nl_1928, nl_4321, nl_5560, nl_12345, nl_1000000, nl_1000003, nl_252645135, nl_858993459, nl_1431655765, nl_1000000000, nI_add, pk_mul, n_sub, n_neg, n_cl, leT, leF, ltT, ltF, eqT, eqF, kbT, s_II, s_In, s_IJ, s_IA, s_IL, s_IR, s_IC, s_JI, s_JJ, s_Jn, s_JA, s_JL, s_JR, s_JC, s_AI, s_AJ, s_AA, s_An, s_AL, s_AR, s_AC, s_LI, s_LJ, s_LA, s_LL, s_Ln, s_LR, s_LC, zleT, zleF, zltT, zltF, zeqT, zeqF, nzleT, nzleF, nzltT, nzltF, nzeqT, nzeqF, znleT, znleF, znltT, znltF, zneqT, zneqF, z_add, z_sub, z_mul, z_neg, z_an, z_na, z_sn, z_ns, z_mn, z_nm, hk, ofn, hx, hy, e_top hS hL', f_X3_holds_99, f_X3_holds_115, f_X3_holds_176, a1, e2]
      rw [if_neg (fun h => oj (Or.inl h)), if_neg (fun h => oj (Or.inr h))] at hr
      by_cases o8 : op ≤ 8
      · rw [if_pos o8] at hr
        obtain ⟨hx, ha⟩ := dC_lo hF (by omega)
        cases st with
        | nil => cases hr
        | cons b st =>
          cases st with
          | nil => cases hr
          | cons v st =>
            obtain ⟨V, v1, v2⟩ := e_join (op := op) (by omega) o8 hS hL
            rcases bd_some hr with ⟨g1, g2⟩ | ⟨x, g1, g2⟩
            · rw [g1] at v2
              replace v2 : f_X3_join (nI (op + 4)) U = some (nI 0, V) := v2
              subst g2
              refine ⟨V, v1, ?_, fun st' h => by cases h⟩
              rw [f_X3_holds_11]
              simp (maxSteps := 1000000) (disch := omega) only [k_let, Option.bind_some, ↓reduceIte, eq_self, true_or, or_true, n01_0, n01_1, kb_or, kb_0T, kb_0F, vn_0, vn_1, vn_k, nl_0, nl_1, nl_2, nl_3, nl_4, nl_5, nl_6, nl_7, nl_8, nl_9, nl_10, nl_11, nl_12, nl_13, nl_14, nl_15, nl_16, nl_20, nl_21, nl_22, nl_23, nl_24, nl_25, nl_26, nl_27, nl_28, nl_29, nl_30, nl_31, nl_32, nl_40, nl_41, nl_42, nl_43, nl_45, nl_47, nl_48, nl_50, nl_57, nl_59, nl_60, nl_61, nl_62, nl_63, nl_64, nl_91, nl_93, nl_94, nl_97, nl_98, nl_100, nl_110, nl_122, nl_130, nl_144, nl_160, nl_240, nl_241, nl_255, nl_256, nl_400, nl_800, nl_900, nl_999, nl_1000, nl_1001, nl_1024, nl_1103, nl_1928, nl_4321, nl_5560, nl_12345, nl_1000000, nl_1000003, nl_252645135, nl_858993459, nl_1431655765, nl_1000000000, nI_add, pk_mul, n_sub, n_neg, n_cl, leT, leF, ltT, ltF, eqT, eqF, kbT, s_II, s_In, s_IJ, s_IA, s_IL, s_IR, s_IC, s_JI, s_JJ, s_Jn, s_JA, s_JL, s_JR, s_JC, s_AI, s_AJ, s_AA, s_An, s_AL, s_AR, s_AC, s_LI, s_LJ, s_LA, s_LL, s_Ln, s_LR, s_LC, hk, ofn, hx, v2, hd1, kB_f]
            · rw [g1] at v2
              obtain ⟨v2, v3⟩ := v2
              obtain ⟨W, w1, w2, w3⟩ := go v1 v3 (by have : st.length + 2 ≤ 64 := hL; show st.length + 1 ≤ 64; omega) (show p < p + 1 by omega) (by omega) g2
              refine ⟨W, w1, ?_, w3⟩
              rw [← w2, f_X3_holds_11]
              simp (maxSteps := 1000000) (disch := omega) only [k_let, Option.bind_some, ↓reduceIte, eq_self, true_or, or_true, n01_0, n01_1, kb_or, kb_0T, kb_0F, vn_0, vn_1, vn_k, nl_0, nl_1, nl_2, nl_3, nl_4, nl_5, nl_6, nl_7, nl_8, nl_9, nl_10, nl_11, nl_12, nl_13, nl_14, nl_15, nl_16, nl_20, nl_21, nl_22, nl_23, nl_24, nl_25, nl_26, nl_27, nl_28, nl_29, nl_30, nl_31, nl_32, nl_40, nl_41, nl_42, nl_43, nl_45, nl_47, nl_48, nl_50, nl_57, nl_59, nl_60, nl_61, nl_62, nl_63, nl_64, nl_91, nl_93, nl_94, nl_97, nl_98, nl_100, nl_110, nl_122, nl_130, nl_144, nl_160, nl_240, nl_241, nl_255, nl_256, nl_400, nl_800, nl_900, nl_999, nl_1000, nl_1001, nl_1024, nl_1103, nl_1928, nl_4321, nl_5560, nl_12345, nl_1000000, nl_1000003, nl_252645135, nl_858993459, nl_1431655765, nl_1000000000, nI_add, pk_mul, n_sub, n_neg, n_cl, leT, leF, ltT, ltF, eqT, eqF, kbT, s_II, s_In, s_IJ, s_IA, s_IL, s_IR, s_IC, s_JI, s_JJ, s_Jn, s_JA, s_JL, s_JR, s_JC, s_AI, s_AJ, s_AA, s_An, s_AL, s_AR, s_AC, s_LI, s_LJ, s_LA, s_LL, s_Ln, s_LR, s_LC, hk, ofn, hx, v2, f_X3_holds_176, e2]
      · rw [if_neg o8] at hr; cases hr
