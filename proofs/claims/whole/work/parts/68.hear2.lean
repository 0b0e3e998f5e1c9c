/-! part 68: the class hears all debts -/
def clampN (v : Int) : Nat := if v < 0 then 0 else if 999 < v then 999 else v.toNat
theorem clampN_le (v : Int) : clampN v ≤ 999 := by
  unfold clampN
  by_cases c : v < 0
  · rw [if_pos c]; omega
  · rw [if_neg c]
    by_cases c2 : 999 < v
    · rw [if_pos c2]; omega
    · rw [if_neg c2]; omega
abbrev Vd : Type := Nat × Bool × Bool
/-- worth, void, barred behind one more clause -/
def vst (kd : Nat) (s t : Option Int) (x : Vd) : Vd :=
  if t = some 1 then (if kd = 0 then (match s with
    | none => x
    | some v => (clampN v, x.2)) else if kd = 1 then (x.1, x.2.1, true) else (x.1, true, x.2.2)) else x
def vgo (kd : Nat → Nat) (ds dt : Nat → Den) (E : Nat → Int) (x0 : Vd) : Nat → Vd
  | 0 => x0
  | c + 1 => vst (kd c) (ds c E) (dt c E) (vgo kd ds dt E x0 c)
theorem clC_run {a : Nat → Int32} {i j kd : Nat} {ds dt : Den} (h : ClC a i j kd ds dt) {E : Nat → Int} (hE : EnvOk E) {n : Nat} (hn : j ≤ n) :
    rn (Fc a) E 64 n (i + 1) j [] = if kd = 0 then bd (ds E) (fun v => bd (dt E) (fun t => some (some [t, v]))) else bd (dt E) (fun t => some (some [t])) := by
  obtain ⟨h1, h2, h3, m, h4, h5⟩ := h
  by_cases c : kd = 0
  · rw [if_pos c] at h4 ⊢
    obtain ⟨m', a1, a2⟩ := h4.2 (Fc a) (fun _ _ _ => rfl) E hE 64 [] j n (by decide) h5.1.1 (by omega)
    rw [a2]
    refine bd_x (fun v _ => ?_)
    rw [h5.run hE (show [v].length + 50 ≤ 64 from (by decide : 1 + 50 ≤ 64)) a1]
  · rw [if_neg c] at h4 ⊢
    subst h4
    rw [h5.run hE (by decide) (by omega)]
/-- what the class holds of debt d, and that of the others it has changed nothing -/
def JdC (S U : St) (d : Nat) (x : Vd) : Prop := gA U 18 d = nI x.1 ∧ gA U 19 d = kB x.2.1 ∧ gA U 20 d = kB x.2.2 ∧ ∀ e, e ≠ d → gA U 18 e = gA S 18 e ∧ gA U 19 e = gA S 19 e ∧ gA U 20 e = gA S 20 e
theorem JdC.fr {S U V : St} {d : Nat} {x : Vd} (h : JdC S U d x) {ci cj ca cl : List Nat} (f : Fr ci cj ca cl U V) (h1 : ca.contains 18 = false) (h2 : ca.contains 19 = false) (h3 : ca.contains 20 = false) : JdC S V d x := by
  unfold JdC
  rw [f.A h1, f.A h2, f.A h3]
  exact h
theorem n_clamp {v : Int} (hv : okV v) : (if nI 0 < (if iZ v < nI 999 then iZ v else nI 999) then (if iZ v < nI 999 then iZ v else nI 999) else nI 0) = nI (clampN v) := by
  obtain ⟨h1, h2⟩ := hv
  unfold clampN
  by_cases c1 : v < 999
  · by_cases c2 : 0 < v
    · simp (disch := omega) only [zleT, zleF, zltT, zltF, zeqT, zeqF, nzleT, nzleF, nzltT, nzltF, nzeqT, nzeqF, znleT, znleF, znltT, znltF, zneqT, zneqF, ↓reduceIte, if_neg] <;> (rw [n_Z]; congr 1; omega)
    · by_cases c3 : v < 0
      · simp (disch := omega) only [zleT, zleF, zltT, zltF, zeqT, zeqF, nzleT, nzleF, nzltT, nzltF, nzeqT, nzeqF, znleT, znleF, znltT, znltF, zneqT, zneqF, ↓reduceIte, if_pos]
      · simp (disch := omega) only [zleT, zleF, zltT, zltF, zeqT, zeqF, nzleT, nzleF, nzltT, nzltF, nzeqT, nzeqF, znleT, znleF, znltT, znltF, zneqT, zneqF, ↓reduceIte, if_neg]
        congr 1; omega
  · simp (disch := omega) only [zleT, zleF, zltT, zltF, zeqT, zeqF, nzleT, nzleF, nzltT, nzltF, nzeqT, nzeqF, znleT, znleF, znltT, znltF, zneqT, zneqF, leT, leF, ltT, ltF, eqT, eqF, kbT, ↓reduceIte]
    by_cases c4 : 999 < v
    · simp (disch := omega) only [if_neg, if_pos]
    · simp (disch := omega) only [if_neg]
      congr 1; omega
theorem hj_one {r a : Nat → Int32} {d q len i j kd : Nat} {ds dt : Den} {S U : St} {x : Vd} (hd : d < nD r) (hlen : len ≤ 800) (hk3 : kd < 3) (hj : 2 * j ≤ len) (h : ClC a i j kd ds dt) (hI : Ic r U) (hO : DbO r U) (hk : k_code U q = some (len, a)) (hx : JdC S U d x) (f c : Nat) (hc : c < 12) :
    ∃ V, Fr [9] [] [18, 19, 20, 22] [] U V ∧ f_X3_hearDebt_5 (f + 1) q (nI d) (nI (2 * i)) (nI c) U = f_X3_hearDebt_5 f q (nI d) (nI (2 * j)) (nI (c + 1)) V ∧ JdC S V d (vst kd (ds (envD r d)) (dt (envD r d)) x) := by
  have hE := envOk hI.1 hd
  have h16 := hI.1.n16
  have hrun := clC_run h hE (n := 1000) (by omega)
  have g := h
  obtain ⟨h1, h2, h3, m, h4, h5⟩ := g
  have hr : ∃ res, rn (Fc a) (envD r d) 64 1000 (i + 1) j [] = some res ∧ ((hd1 res = true ∧ dt (envD r d) = some 1 ∧ (kd = 0 → ∃ v, ds (envD r d) = some v ∧ okV v ∧ res = some [1, v])) ∨ (hd1 res = false ∧ vst kd (ds (envD r d)) (dt (envD r d)) x = x)) := by
    rw [hrun]
    by_cases c0 : kd = 0
    · rw [if_pos c0]
      rw [if_pos c0] at h4
      cases e1 : ds (envD r d) with
      | none =>
        refine ⟨none, rfl, Or.inr ⟨rfl, ?_⟩⟩
        unfold vst
        rw [if_pos c0]
        by_cases z : dt (envD r d) = some 1
        · rw [if_pos z]
        · rw [if_neg z]
      | some v =>
        cases e2 : dt (envD r d) with
        | none => exact ⟨none, rfl, Or.inr ⟨rfl, by unfold vst; rw [if_neg (by intro q; cases q)]⟩⟩
        | some t =>
          refine ⟨some [t, v], rfl, ?_⟩
          by_cases z : t = 1
          · subst z
            exact Or.inl ⟨rfl, rfl, fun _ => ⟨v, rfl, h4.1.2 _ hE _ e1, rfl⟩⟩
          · refine Or.inr ⟨decide_eq_false z, ?_⟩
            unfold vst
            rw [if_neg (fun q => z (Option.some.inj q))]
    · rw [if_neg c0]
      cases e2 : dt (envD r d) with
      | none => exact ⟨none, rfl, Or.inr ⟨rfl, by unfold vst; rw [if_neg (by intro q; cases q)]⟩⟩
      | some t =>
        refine ⟨some [t], rfl, ?_⟩
        by_cases z : t = 1
        · subst z
          exact Or.inl ⟨rfl, rfl, fun q => absurd q c0⟩
        · refine Or.inr ⟨decide_eq_false z, ?_⟩
          unfold vst
          rw [if_neg (fun q => z (Option.some.inj q))]
  obtain ⟨res, hr1, hr2⟩ := hr
  have fU : Fr [9] [] [22] [] U (sI U 9 (nI 0)) := (Fr.refl U).sI rfl _
  have hS0 : StkC (sI U 9 (nI 0)) [] := ⟨s_II _ _ _, fun i hi => absurd hi (Nat.not_lt_zero _), fun v hv => by cases hv⟩
  obtain ⟨W, w1, w2, w3⟩ := hj_holds hd hlen hj 1000 (i + 1) [] (sI U 9 (nI 0)) FU 0 res hr1 (hI.fr fU rfl rfl) (hO.fr fU rfl) (kcode_fr hk fU) hS0 (by decide) (Nat.zero_le _) (FU_ge (by decide)) (by omega)
  have eH : f_X3_holds q (nI (2 * i + 2)) (nI (2 * j)) (nI d) U = some (kB (hd1 res), W) := by
    unfold f_X3_holds
    simp only [k_let, nl_0]
    exact w2
  have fW : Fr [9] [] [18, 19, 20, 22] [] U W := (fU.trans w1).mono rfl rfl rfl rfl
  have jW : JdC S W d x := hx.fr (fU.trans w1) rfl rfl rfl
  rcases hr2 with ⟨b1, b2, b3⟩ | ⟨b1, b2⟩
  · rw [b1] at eH
    have : kd = 0 ∨ kd = 1 ∨ kd = 2 := by omega
    rcases this with rfl | rfl | rfl
    · obtain ⟨v, v1, v2, v3⟩ := b3 rfl
      have st := w3 _ v3
      have g0 : gA W 22 0 = iZ v := st.2.1 0 (show 0 < 2 by decide)
      refine ⟨sA W 18 d (nI (clampN v)), fW.sA rfl _ _, ?_, ?_⟩
      · rw [f_X3_hearDebt_5]
        have nc := n_clamp v2
        simp (maxSteps := 1000000) (disch := omega) only [k_let, Option.bind_some, ↓reduceIte, eq_self, true_or, or_true, n01_0, n01_1, kb_or, kb_0T, kb_0F, vn_0, vn_1, vn_k, nl_0, nl_1, nl_2, nl_3, nl_4, nl_5, nl_6, nl_7, nl_8, nl_9, nl_10, nl_11, nl_12, nl_13, nl_14, nl_15, nl_16, nl_20, nl_21, nl_22, nl_23, nl_24, nl_25, nl_26, nl_27, nl_28, nl_29, nl_30, nl_31, nl_32, nl_40, nl_41, nl_42, nl_43, nl_45, nl_47, nl_48, nl_50, nl_57, nl_59, nl_60, nl_61, nl_62, nl_63, nl_64, nl_91, nl_93, nl_94, nl_97, nl_98, nl_100, nl_110, nl_122, nl_130, nl_144, nl_160, nl_240, nl_241, nl_255, nl_256, nl_400, nl_800, nl_900, nl_999, nl_1000, nl_1001, nl_1024, nl_1103, nl_1928, nl_4321, nl_5560, nl_12345, nl_1000000, nl_1000003, nl_252645135, nl_858993459, nl_1431655765, nl_1000000000, nI_add, pk_mul, n_sub, n_neg, n_cl, leT, leF, ltT, ltF, eqT, eqF, kbT, s_II, s_In, s_IJ, s_IA, s_IL, s_IR, s_IC, s_JI, s_JJ, s_Jn, s_JA, s_JL, s_JR, s_JC, s_AI, s_AJ, s_AA, s_An, s_AL, s_AR, s_AC, s_LI, s_LJ, s_LA, s_LL, s_Ln, s_LR, s_LC, hk, ofn, h2, h3, eH, kB_t, f_X3_hearDebt_114, g0, nc]
      · unfold vst
        rw [if_pos b2, if_pos rfl, v1]
        obtain ⟨j1, j2, j3, j4⟩ := jW
        refine ⟨by rw [s_AA, u_s], by rw [s_An (by decide)]; exact j2, by rw [s_An (by decide)]; exact j3, fun e he => ?_⟩
        rw [s_AA, u_n he, s_An (by decide), s_An (by decide)]
        exact j4 e he
    · refine ⟨sA W 20 d (kB true), fW.sA rfl _ _, ?_, ?_⟩
      · rw [f_X3_hearDebt_5]
        simp (maxSteps := 1000000) (disch := omega) only [k_let, Option.bind_some, ↓reduceIte, eq_self, true_or, or_true, n01_0, n01_1, kb_or, kb_0T, kb_0F, vn_0, vn_1, vn_k, nl_0, nl_1, nl_2, nl_3, nl_4, nl_5, nl_6, nl_7, nl_8, nl_9, nl_10, nl_11, nl_12, nl_13, nl_14, nl_15, nl_16, nl_20, nl_21, nl_22, nl_23, nl_24, nl_25, nl_26, nl_27, nl_28, nl_29, nl_30, nl_31, nl_32, nl_40, nl_41, nl_42, nl_43, nl_45, nl_47, nl_48, nl_50, nl_57, nl_59, nl_60, nl_61, nl_62, nl_63, nl_64, nl_91, nl_93, nl_94, nl_97, nl_98, nl_100, nl_110, nl_122, nl_130, nl_144, nl_160, nl_240, nl_241, nl_255, nl_256, nl_400, nl_800, nl_900, nl_999, nl_1000, nl_1001, nl_1024, nl_1103, nl_1928, nl_4321, nl_5560, nl_12345, nl_1000000, nl_1000003, nl_252645135, nl_858993459, nl_1431655765, nl_1000000000, nI_add, pk_mul, n_sub, n_neg, n_cl, leT, leF, ltT, ltF, eqT, eqF, kbT, s_II, s_In, s_IJ, s_IA, s_IL, s_IR, s_IC, s_JI, s_JJ, s_Jn, s_JA, s_JL, s_JR, s_JC, s_AI, s_AJ, s_AA, s_An, s_AL, s_AR, s_AC, s_LI, s_LJ, s_LA, s_LL, s_Ln, s_LR, s_LC, hk, ofn, h2, h3, eH, kB_t, f_X3_hearDebt_114]
      · unfold vst
        rw [if_pos b2, if_neg (by decide), if_pos rfl]
        obtain ⟨j1, j2, j3, j4⟩ := jW
        refine ⟨by rw [s_An (by decide)]; exact j1, by rw [s_An (by decide)]; exact j2, by rw [s_AA, u_s], fun e he => ?_⟩
        rw [s_AA, u_n he, s_An (by decide), s_An (by decide)]
        exact j4 e he
    · refine ⟨sA W 19 d (kB true), fW.sA rfl _ _, ?_, ?_⟩
      · rw [f_X3_hearDebt_5]
        simp (maxSteps := 1000000) (disch := omega) only [k_let, Option.bind_some, ↓reduceIte, eq_self, true_or, or_true, n01_0, n01_1, kb_or, kb_0T, kb_0F, vn_0, vn_1, vn_k, nl_0, nl_1, nl_2, nl_3, nl_4, nl_5, nl_6, nl_7, nl_8, nl_9, nl_10, nl_11, nl_12, nl_13, nl_14, nl_15, nl_16, nl_20, nl_21, nl_22, nl_23, nl_24, nl_25, nl_26, nl_27, nl_28, nl_29, nl_30, nl_31, nl_32, nl_40, nl_41, nl_42, nl_43, nl_45, nl_47, nl_48, nl_50, nl_57, nl_59, nl_60, nl_61, nl_62, nl_63, nl_64, nl_91, nl_93, nl_94, nl_97, nl_98, nl_100, nl_110, nl_122, nl_130, nl_144, nl_160, nl_240, nl_241, nl_255, nl_256, nl_400, nl_800, nl_900, nl_999, nl_1000, nl_1001, nl_1024, nl_1103, nl_1928, nl_4321, nl_5560, nl_12345, nl_1000000, nl_1000003, nl_252645135, nl_858993459, nl_1431655765, nl_1000000000, nI_add, pk_mul, n_sub, n_neg, n_cl, leT, leF, ltT, ltF, eqT, eqF, kbT, s_II, s_In, s_IJ, s_IA, s_IL, s_IR, s_IC, s_JI, s_JJ, s_Jn, s_JA, s_JL, s_JR, s_JC, s_AI, s_AJ, s_AA, s_An, s_AL, s_AR, s_AC, s_LI, s_LJ, s_LA, s_LL, s_Ln, s_LR, s_LC, hk, ofn, h2, h3, eH, kB_t, f_X3_hearDebt_114]
      · unfold vst
        rw [if_pos b2, if_neg (by decide), if_neg (by decide)]
        obtain ⟨j1, j2, j3, j4⟩ := jW
        refine ⟨by rw [s_An (by decide)]; exact j1, by rw [s_AA, u_s], by rw [s_An (by decide)]; exact j3, fun e he => ?_⟩
        rw [s_AA, u_n he, s_An (by decide), s_An (by decide)]
        exact j4 e he
  · rw [b1] at eH
    refine ⟨W, fW, ?_, by rw [b2]; exact jW⟩
    rw [f_X3_hearDebt_5]
    simp (maxSteps := 1000000) (disch := omega) only [k_let, Option.bind_some, ↓reduceIte, eq_self, true_or, or_true, n01_0, n01_1, kb_or, kb_0T, kb_0F, vn_0, vn_1, vn_k, nl_0, nl_1, nl_2, nl_3, nl_4, nl_5, nl_6, nl_7, nl_8, nl_9, nl_10, nl_11, nl_12, nl_13, nl_14, nl_15, nl_16, nl_20, nl_21, nl_22, nl_23, nl_24, nl_25, nl_26, nl_27, nl_28, nl_29, nl_30, nl_31, nl_32, nl_40, nl_41, nl_42, nl_43, nl_45, nl_47, nl_48, nl_50, nl_57, nl_59, nl_60, nl_61, nl_62, nl_63, nl_64, nl_91, nl_93, nl_94, nl_97, nl_98, nl_100, nl_110, nl_122, nl_130, nl_144, nl_160, nl_240, nl_241, nl_255, nl_256, nl_400, nl_800, nl_900, nl_999, nl_1000, nl_1001, nl_1024, nl_1103, nl_1928, nl_4321, nl_5560, nl_12345, nl_1000000, nl_1000003, nl_252645135, nl_858993459, nl_1431655765, nl_1000000000, nI_add, pk_mul, n_sub, n_neg, n_cl, leT, leF, ltT, ltF, eqT, eqF, kbT, s_II, s_In, s_IJ, s_IA, s_IL, s_IR, s_IC, s_JI, s_JJ, s_Jn, s_JA, s_JL, s_JR, s_JC, s_AI, s_AJ, s_AA, s_An, s_AL, s_AR, s_AC, s_LI, s_LJ, s_LA, s_LL, s_Ln, s_LR, s_LC, hk, ofn, h2, h3, eH, kB_f, f_X3_hearDebt_114]
theorem hj_all {r a g : Nat → Int32} {d q len nc : Nat} {kd pc : Nat → Nat} {ds dt : Nat → Den} {S : St} {x0 : Vd} (hd : d < nD r) (hlen : len ≤ 800) (hn : nc ≤ 12) (hp : len = 2 * pc nc) (hC : ∀ c, c < nc → kd c < 3 ∧ T01 (dt c) ∧ ClC a (pc c) (pc (c + 1)) (kd c) (ds c) (dt c) ∧ ClM g c (kd c) (ds c) (dt c)) (hk : k_code S q = some (len, a)) (hI : Ic r S) (hO : DbO r S) :
    ∀ (m f c : Nat) (U : St), c + m = nc → m < f → Fr [9] [] [18, 19, 20, 22] [] S U → JdC S U d (vgo kd ds dt (envD r d) x0 c) →
    ∃ V, f_X3_hearDebt_5 f q (nI d) (nI (2 * pc c)) (nI c) U = some V ∧ Fr [9] [] [18, 19, 20, 22] [] S V ∧ JdC S V d (vgo kd ds dt (envD r d) x0 nc) := by
  have mono : ∀ {c e : Nat}, e ≤ nc → c ≤ e → pc c ≤ pc e := by
    intro c e
    induction e with
    | zero => intro _ h; rw [Nat.le_zero.mp h]; exact Nat.le_refl _
    | succ e ih =>
      intro he h
      by_cases q : c = e + 1
      · rw [q]; exact Nat.le_refl _
      · have := (hC e (by omega)).2.2.1.1
        have := ih (by omega) (by omega)
        omega
  intro m
  induction m with
  | zero =>
    intro f c U hc hf hF hx
    obtain ⟨f, rfl⟩ : ∃ g, f = g + 1 := ⟨f - 1, by omega⟩
    have : c = nc := by omega
    subst this
    refine ⟨U, ?_, hF, hx⟩
    have hk2 := kcode_fr hk hF
    rw [f_X3_hearDebt_5]
    by_cases z : 12 ≤ c
    · rw [if_pos (show (12 : Int32) ≤ nI c by rw [nl_12, n_le (by decide) (by omega)]; exact z)]
      rfl
    · rw [if_neg (show ¬ (12 : Int32) ≤ nI c by rw [nl_12, n_le (by decide) (by omega)]; exact z), hk2, Option.bind_some, if_pos (show Int32.ofNat (len, a).1 ≤ nI (2 * pc c) + 1 by show nI len ≤ nI (2 * pc c) + nI 1; rw [nI_add, n_le (by omega) (by omega)]; omega)]
      rfl
  | succ m ih =>
    intro f c U hc hf hF hx
    obtain ⟨f, rfl⟩ : ∃ g, f = g + 1 := ⟨f - 1, by omega⟩
    have hcn : c < nc := by omega
    have hp2 := mono (c := c + 1) (Nat.le_refl nc) hcn
    obtain ⟨V, v1, v2, v3⟩ := hj_one (S := S) hd hlen (hC c hcn).1 (by omega) (hC c hcn).2.2.1 (hI.fr hF rfl rfl) (hO.fr hF rfl) (kcode_fr hk hF) hx f c (by omega)
    rw [v2]
    exact ih f (c + 1) V (by omega) (by omega) (hF.trans v1) v3
theorem e_fill21 {S : St} : ∃ T, f_J7_fill_53178_a21 (nI 0) S = some T ∧ Fr [] [] [21] [] S T ∧ ∀ i, i < 8 → gA T 21 i = nI 0 := by
  have key : ∀ (m f i : Nat) (U : St), i + m = 8 → m < f → Fr [] [] [21] [] S U → (∀ j, j < i → gA U 21 j = nI 0) → ∃ T, f_J7_fill_53178_a21_5 f (nI 0) (nI i) (nI 8) U = some T ∧ Fr [] [] [21] [] S T ∧ ∀ i, i < 8 → gA T 21 i = nI 0 := by
    intro m
    induction m with
    | zero =>
      intro f i U hi hf hF hp
      obtain ⟨f, rfl⟩ : ∃ g, f = g + 1 := ⟨f - 1, by omega⟩
      have : i = 8 := by omega
      subst this
      refine ⟨U, ?_, hF, hp⟩
      rw [f_J7_fill_53178_a21_5]
      simp (disch := omega) only [k_let, Option.bind_some, ↓reduceIte, eq_self, true_or, or_true, n01_0, n01_1, kb_or, kb_0T, kb_0F, vn_0, vn_1, vn_k, nl_0, nl_1, nl_2, nl_3, nl_4, nl_5, nl_6, nl_7, nl_8, nl_9, nl_10, nl_11, nl_12, nl_13, nl_14, nl_15, nl_16, nl_20, nl_21, nl_22, nl_23, nl_24, nl_25, nl_26, nl_27, nl_28, nl_29, nl_30, nl_31, nl_32, nl_40, nl_41, nl_42, nl_43, nl_45, nl_47, nl_48, nl_50, nl_57, nl_59, nl_60, nl_61, nl_62, nl_63, nl_64, nl_91, nl_93, nl_94, nl_97, nl_98, nl_100, nl_110, nl_122, nl_130, nl_144, nl_160, nl_240, nl_241, nl_255, nl_256, nl_400, nl_800, nl_900, nl_999, nl_1000, nl_1001, nl_1024, nl_1103, nl_1928, nl_4321, nl_5560, nl_12345, nl_1000000, nl_1000003, nl_252645135, nl_858993459, nl_1431655765, nl_1000000000, nI_add, pk_mul, n_sub, n_neg, n_cl, leT, leF, ltT, ltF, eqT, eqF, kbT, s_II, s_In, s_IJ, s_IA, s_IL, s_IR, s_IC, s_JI, s_JJ, s_Jn, s_JA, s_JL, s_JR, s_JC, s_AI, s_AJ, s_AA, s_An, s_AL, s_AR, s_AC, s_LI, s_LJ, s_LA, s_LL, s_Ln, s_LR, s_LC]
    | succ m ih =>
      intro f i U hi hf hF hp
      obtain ⟨f, rfl⟩ : ∃ g, f = g + 1 := ⟨f - 1, by omega⟩
      have e : f_J7_fill_53178_a21_5 (f + 1) (nI 0) (nI i) (nI 8) U = f_J7_fill_53178_a21_5 f (nI 0) (nI (i + 1)) (nI 8) (sA U 21 i (nI 0)) := by
        rw [f_J7_fill_53178_a21_5]
        simp (disch := omega) only [k_let, Option.bind_some, ↓reduceIte, eq_self, true_or, or_true, n01_0, n01_1, kb_or, kb_0T, kb_0F, vn_0, vn_1, vn_k, nl_0, nl_1, nl_2, nl_3, nl_4, nl_5, nl_6, nl_7, nl_8, nl_9, nl_10, nl_11, nl_12, nl_13, nl_14, nl_15, nl_16, nl_20, nl_21, nl_22, nl_23, nl_24, nl_25, nl_26, nl_27, nl_28, nl_29, nl_30, nl_31, nl_32, nl_40, nl_41, nl_42, nl_43, nl_45, nl_47, nl_48, nl_50, nl_57, nl_59, nl_60, nl_61, nl_62, nl_63, nl_64, nl_91, nl_93, nl_94, nl_97, nl_98, nl_100, nl_110, nl_122, nl_130, nl_144, nl_160, nl_240, nl_241, nl_255, nl_256, nl_400, nl_800, nl_900, nl_999, nl_1000, nl_1001, nl_1024, nl_1103, nl_1928, nl_4321, nl_5560, nl_12345, nl_1000000, nl_1000003, nl_252645135, nl_858993459, nl_1431655765, nl_1000000000, nI_add, pk_mul, n_sub, n_neg, n_cl, leT, leF, ltT, ltF, eqT, eqF, kbT, s_II, s_In, s_IJ, s_IA, s_IL, s_IR, s_IC, s_JI, s_JJ, s_Jn, s_JA, s_JL, s_JR, s_JC, s_AI, s_AJ, s_AA, s_An, s_AL, s_AR, s_AC, s_LI, s_LJ, s_LA, s_LL, s_Ln, s_LR, s_LC]
      rw [e]
      refine ih f (i + 1) _ (by omega) (by omega) (hF.sA rfl _ _) (fun j hj => ?_)
      rw [s_AA, u_a]
      by_cases q : j = i
      · rw [if_pos q]
      · rw [if_neg q]; exact hp j (by omega)
  unfold f_J7_fill_53178_a21
  exact key 8 FU 0 S (by omega) (FU_ge (by decide)) (Fr.refl _) (fun j hj => absurd hj (Nat.not_lt_zero _))
/-- behind the counting -/
theorem l_hear10 {r : Nat → Int32} {S : St} (hI : Ic r S) : ∀ (m f d : Nat) (U : St), d + m = nD r → m < f → Fr [] [] [21] [] S U → (∀ k, k < 8 → gA U 21 k = nI (sm (fun e => if dOw r e = k then 1 else 0) d)) →
    ∃ V, f_X3_hear_10 f (nI d) U = f_X3_hear_60 V ∧ Fr [] [] [21] [] S V ∧ DbO r V := by
  have h16 := hI.1.n16
  intro m
  induction m with
  | zero =>
    intro f d U hd hf hF hp
    obtain ⟨f, rfl⟩ : ∃ g, f = g + 1 := ⟨f - 1, by omega⟩
    have : d = nD r := by omega
    subst this
    have h1 := (hI.fr hF rfl rfl).I1
    refine ⟨U, ?_, hF, hp⟩
    rw [f_X3_hear_10]
    simp (disch := omega) only [k_let, Option.bind_some, ↓reduceIte, eq_self, true_or, or_true, n01_0, n01_1, kb_or, kb_0T, kb_0F, vn_0, vn_1, vn_k, nl_0, nl_1, nl_2, nl_3, nl_4, nl_5, nl_6, nl_7, nl_8, nl_9, nl_10, nl_11, nl_12, nl_13, nl_14, nl_15, nl_16, nl_20, nl_21, nl_22, nl_23, nl_24, nl_25, nl_26, nl_27, nl_28, nl_29, nl_30, nl_31, nl_32, nl_40, nl_41, nl_42, nl_43, nl_45, nl_47, nl_48, nl_50, nl_57, nl_59, nl_60, nl_61, nl_62, nl_63, nl_64, nl_91, nl_93, nl_94, nl_97, nl_98, nl_100, nl_110, nl_122, nl_130, nl_144, nl_160, nl_240, nl_241, nl_255, nl_256, nl_400, nl_800, nl_900, nl_999, nl_1000, nl_1001, nl_1024, nl_1103, nl_1928, nl_4321, nl_5560, nl_12345, nl_1000000, nl_1000003, nl_252645135, nl_858993459, nl_1431655765, nl_1000000000, nI_add, pk_mul, n_sub, n_neg, n_cl, leT, leF, ltT, ltF, eqT, eqF, kbT, s_II, s_In, s_IJ, s_IA, s_IL, s_IR, s_IC, s_JI, s_JJ, s_Jn, s_JA, s_JL, s_JR, s_JC, s_AI, s_AJ, s_AA, s_An, s_AL, s_AR, s_AC, s_LI, s_LJ, s_LA, s_LL, s_Ln, s_LR, s_LC, h1]
  | succ m ih =>
    intro f d U hd hf hF hp
    obtain ⟨f, rfl⟩ : ∃ g, f = g + 1 := ⟨f - 1, by omega⟩
    have hdn : d < nD r := by omega
    have hU := hI.fr hF rfl rfl
    have h1 := hU.I1
    have e3 := (hU.C hdn).1
    have o8 := (hI.1.ow hdn).2
    have hb : decide (0 ≤ (nI (dOw r d)).toInt ∧ (nI (dOw r d)).toInt ≤ 7) = true := by rw [n_ti (by omega)]; exact decide_eq_true (by omega)
    have hc := cnt_le r (dOw r d) d
    have hg := hp _ o8
    have e : f_X3_hear_10 (f + 1) (nI d) U = f_X3_hear_10 f (nI (d + 1)) (sA U 21 (dOw r d) (nI (sm (fun e => if dOw r e = dOw r d then 1 else 0) d + 1))) := by
      rw [f_X3_hear_10]
      simp (disch := omega) only [k_let, Option.bind_some, ↓reduceIte, eq_self, true_or, or_true, n01_0, n01_1, kb_or, kb_0T, kb_0F, vn_0, vn_1, vn_k, nl_0, nl_1, nl_2, nl_3, nl_4, nl_5, nl_6, nl_7, nl_8, nl_9, nl_10, nl_11, nl_12, nl_13, nl_14, nl_15, nl_16, nl_20, nl_21, nl_22, nl_23, nl_24, nl_25, nl_26, nl_27, nl_28, nl_29, nl_30, nl_31, nl_32, nl_40, nl_41, nl_42, nl_43, nl_45, nl_47, nl_48, nl_50, nl_57, nl_59, nl_60, nl_61, nl_62, nl_63, nl_64, nl_91, nl_93, nl_94, nl_97, nl_98, nl_100, nl_110, nl_122, nl_130, nl_144, nl_160, nl_240, nl_241, nl_255, nl_256, nl_400, nl_800, nl_900, nl_999, nl_1000, nl_1001, nl_1024, nl_1103, nl_1928, nl_4321, nl_5560, nl_12345, nl_1000000, nl_1000003, nl_252645135, nl_858993459, nl_1431655765, nl_1000000000, nI_add, pk_mul, n_sub, n_neg, n_cl, leT, leF, ltT, ltF, eqT, eqF, kbT, s_II, s_In, s_IJ, s_IA, s_IL, s_IR, s_IC, s_JI, s_JJ, s_Jn, s_JA, s_JL, s_JR, s_JC, s_AI, s_AJ, s_AA, s_An, s_AL, s_AR, s_AC, s_LI, s_LJ, s_LA, s_LL, s_Ln, s_LR, s_LC, h1, e3, e_dancer, hb, kB_t, hg, f_X3_hear_54]
    rw [e]
    refine ih f (d + 1) _ (by omega) (by omega) (hF.sA rfl _ _) (fun k hk => ?_)
    rw [s_AA, u_a]
    show _ = nI (sm (fun e => if dOw r e = k then 1 else 0) d + (if dOw r d = k then 1 else 0))
    by_cases q : k = dOw r d
    · rw [if_pos q, if_pos q.symm, q]
    · rw [if_neg q, if_neg (fun z => q z.symm), Nat.add_zero]
      exact hp k hk
/-- what the class holds of all debts below d -/
def JaC (r : Nat → Int32) (U : St) (V : Nat → Vd) (n : Nat) : Prop := ∀ d, d < n → gA U 18 d = nI (V d).1 ∧ gA U 19 d = kB (V d).2.1 ∧ gA U 20 d = kB (V d).2.2
theorem l_hear70 {r : Nat → Int32} {S : St} (hI : Ic r S) : ∀ (m f d : Nat) (U : St), d + m = nD r → m < f → Fr [] [] [18, 19, 20] [] S U → JaC r U (fun d => (dLn r d, false, false)) d →
    ∃ V, f_X3_hear_70 f (nI d) U = some V ∧ Fr [] [] [18, 19, 20] [] S V ∧ JaC r V (fun d => (dLn r d, false, false)) (nD r) := by
  have h16 := hI.1.n16
  intro m
  induction m with
  | zero =>
    intro f d U hd hf hF hp
    obtain ⟨f, rfl⟩ : ∃ g, f = g + 1 := ⟨f - 1, by omega⟩
    have : d = nD r := by omega
    subst this
    have h1 := (hI.fr hF rfl rfl).I1
    refine ⟨U, ?_, hF, hp⟩
    rw [f_X3_hear_70, f_X3_hear_131]
    simp (disch := omega) only [k_let, Option.bind_some, ↓reduceIte, eq_self, true_or, or_true, n01_0, n01_1, kb_or, kb_0T, kb_0F, vn_0, vn_1, vn_k, nl_0, nl_1, nl_2, nl_3, nl_4, nl_5, nl_6, nl_7, nl_8, nl_9, nl_10, nl_11, nl_12, nl_13, nl_14, nl_15, nl_16, nl_20, nl_21, nl_22, nl_23, nl_24, nl_25, nl_26, nl_27, nl_28, nl_29, nl_30, nl_31, nl_32, nl_40, nl_41, nl_42, nl_43, nl_45, nl_47, nl_48, nl_50, nl_57, nl_59, nl_60, nl_61, nl_62, nl_63, nl_64, nl_91, nl_93, nl_94, nl_97, nl_98, nl_100, nl_110, nl_122, nl_130, nl_144, nl_160, nl_240, nl_241, nl_255, nl_256, nl_400, nl_800, nl_900, nl_999, nl_1000, nl_1001, nl_1024, nl_1103, nl_1928, nl_4321, nl_5560, nl_12345, nl_1000000, nl_1000003, nl_252645135, nl_858993459, nl_1431655765, nl_1000000000, nI_add, pk_mul, n_sub, n_neg, n_cl, leT, leF, ltT, ltF, eqT, eqF, kbT, s_II, s_In, s_IJ, s_IA, s_IL, s_IR, s_IC, s_JI, s_JJ, s_Jn, s_JA, s_JL, s_JR, s_JC, s_AI, s_AJ, s_AA, s_An, s_AL, s_AR, s_AC, s_LI, s_LJ, s_LA, s_LL, s_Ln, s_LR, s_LC, h1]
  | succ m ih =>
    intro f d U hd hf hF hp
    obtain ⟨f, rfl⟩ : ∃ g, f = g + 1 := ⟨f - 1, by omega⟩
    have hdn : d < nD r := by omega
    have hU := hI.fr hF rfl rfl
    have h1 := hU.I1
    have e : f_X3_hear_70 (f + 1) (nI d) U = f_X3_hear_70 f (nI (d + 1)) (sA (sA (sA U 18 d (nI (dLn r d))) 19 d (nI 0)) 20 d (nI 0)) := by
      rw [f_X3_hear_70]
      simp (disch := omega) only [k_let, Option.bind_some, ↓reduceIte, eq_self, true_or, or_true, n01_0, n01_1, kb_or, kb_0T, kb_0F, vn_0, vn_1, vn_k, nl_0, nl_1, nl_2, nl_3, nl_4, nl_5, nl_6, nl_7, nl_8, nl_9, nl_10, nl_11, nl_12, nl_13, nl_14, nl_15, nl_16, nl_20, nl_21, nl_22, nl_23, nl_24, nl_25, nl_26, nl_27, nl_28, nl_29, nl_30, nl_31, nl_32, nl_40, nl_41, nl_42, nl_43, nl_45, nl_47, nl_48, nl_50, nl_57, nl_59, nl_60, nl_61, nl_62, nl_63, nl_64, nl_91, nl_93, nl_94, nl_97, nl_98, nl_100, nl_110, nl_122, nl_130, nl_144, nl_160, nl_240, nl_241, nl_255, nl_256, nl_400, nl_800, nl_900, nl_999, nl_1000, nl_1001, nl_1024, nl_1103, nl_1928, nl_4321, nl_5560, nl_12345, nl_1000000, nl_1000003, nl_252645135, nl_858993459, nl_1431655765, nl_1000000000, nI_add, pk_mul, n_sub, n_neg, n_cl, leT, leF, ltT, ltF, eqT, eqF, kbT, s_II, s_In, s_IJ, s_IA, s_IL, s_IR, s_IC, s_JI, s_JJ, s_Jn, s_JA, s_JL, s_JR, s_JC, s_AI, s_AJ, s_AA, s_An, s_AL, s_AR, s_AC, s_LI, s_LJ, s_LA, s_LL, s_Ln, s_LR, s_LC, h1, e_lenD hU hdn, f_X3_hear_125]
    rw [e]
    refine ih f (d + 1) _ (by omega) (by omega) (((hF.sA rfl _ _).sA rfl _ _).sA rfl _ _) (fun k hk => ?_)
    simp (disch := omega) only [s_II, s_In, s_IJ, s_IA, s_IL, s_IR, s_IC, s_JI, s_JJ, s_Jn, s_JA, s_JL, s_JR, s_JC, s_AI, s_AJ, s_AA, s_An, s_AL, s_AR, s_AC, s_LI, s_LJ, s_LA, s_LL, s_Ln, s_LR, s_LC]
    by_cases q : k = d
    · rw [q, u_s, u_s, u_s]; exact ⟨rfl, rfl, rfl⟩
    · rw [u_n q, u_n q, u_n q]; exact hp k (by omega)
theorem l_hear70v {r a g : Nat → Int32} {q len nc : Nat} {kd pc : Nat → Nat} {ds dt : Nat → Den} {S : St} (hlen : len ≤ 800) (hn : nc ≤ 12) (h0 : pc 0 = 0) (hp : len = 2 * pc nc) (hC : ∀ c, c < nc → kd c < 3 ∧ T01 (dt c) ∧ ClC a (pc c) (pc (c + 1)) (kd c) (ds c) (dt c) ∧ ClM g c (kd c) (ds c) (dt c)) (hk : k_code S q = some (len, a)) (hI : Ic r S) (hO : DbO r S) : ∀ (m f d : Nat) (U : St), d + m = nD r → m < f → Fr [9] [] [18, 19, 20, 22] [] S U → JaC r U (fun d => vgo kd ds dt (envD r d) (dLn r d, false, false) nc) d →
    ∃ V, f_X3_hear_70v1 f q (nI d) U = some V ∧ Fr [9] [] [18, 19, 20, 22] [] S V ∧ JaC r V (fun d => vgo kd ds dt (envD r d) (dLn r d, false, false) nc) (nD r) := by
  have h16 := hI.1.n16
  intro m
  induction m with
  | zero =>
    intro f d U hd hf hF hx
    obtain ⟨f, rfl⟩ : ∃ g, f = g + 1 := ⟨f - 1, by omega⟩
    have : d = nD r := by omega
    subst this
    have h1 := (hI.fr hF rfl rfl).I1
    refine ⟨U, ?_, hF, hx⟩
    rw [f_X3_hear_70v1, f_X3_hear_131]
    simp (disch := omega) only [k_let, Option.bind_some, ↓reduceIte, eq_self, true_or, or_true, n01_0, n01_1, kb_or, kb_0T, kb_0F, vn_0, vn_1, vn_k, nl_0, nl_1, nl_2, nl_3, nl_4, nl_5, nl_6, nl_7, nl_8, nl_9, nl_10, nl_11, nl_12, nl_13, nl_14, nl_15, nl_16, nl_20, nl_21, nl_22, nl_23, nl_24, nl_25, nl_26, nl_27, nl_28, nl_29, nl_30, nl_31, nl_32, nl_40, nl_41, nl_42, nl_43, nl_45, nl_47, nl_48, nl_50, nl_57, nl_59, nl_60, nl_61, nl_62, nl_63, nl_64, nl_91, nl_93, nl_94, nl_97, nl_98, nl_100, nl_110, nl_122, nl_130, nl_144, nl_160, nl_240, nl_241, nl_255, nl_256, nl_400, nl_800, nl_900, nl_999, nl_1000, nl_1001, nl_1024, nl_1103, nl_1928, nl_4321, nl_5560, nl_12345, nl_1000000, nl_1000003, nl_252645135, nl_858993459, nl_1431655765, nl_1000000000, nI_add, pk_mul, n_sub, n_neg, n_cl, leT, leF, ltT, ltF, eqT, eqF, kbT, s_II, s_In, s_IJ, s_IA, s_IL, s_IR, s_IC, s_JI, s_JJ, s_Jn, s_JA, s_JL, s_JR, s_JC, s_AI, s_AJ, s_AA, s_An, s_AL, s_AR, s_AC, s_LI, s_LJ, s_LA, s_LL, s_Ln, s_LR, s_LC, h1]
  | succ m ih =>
    intro f d U hd hf hF hx
    obtain ⟨f, rfl⟩ : ∃ g, f = g + 1 := ⟨f - 1, by omega⟩
    have hdn : d < nD r := by omega
    have hU := hI.fr hF rfl rfl
    have h1 := hU.I1
    have fT : Fr [9] [] [18, 19, 20, 22] [] S (sA (sA (sA U 18 d (nI (dLn r d))) 19 d (nI 0)) 20 d (nI 0)) := ((hF.sA rfl _ _).sA rfl _ _).sA rfl _ _
    obtain ⟨V, v1, v2, v3⟩ := hj_all (x0 := (dLn r d, false, false)) (S := sA (sA (sA U 18 d (nI (dLn r d))) 19 d (nI 0)) 20 d (nI 0)) hdn hlen hn hp hC (kcode_fr hk fT) (hI.fr fT rfl rfl) (hO.fr fT rfl) nc FU 0 _ (by omega) (FU_ge (by omega)) (Fr.refl _) (by
      refine ⟨?_, ?_, ?_, fun e _ => ⟨rfl, rfl, rfl⟩⟩
      · simp (disch := omega) only [s_II, s_In, s_IJ, s_IA, s_IL, s_IR, s_IC, s_JI, s_JJ, s_Jn, s_JA, s_JL, s_JR, s_JC, s_AI, s_AJ, s_AA, s_An, s_AL, s_AR, s_AC, s_LI, s_LJ, s_LA, s_LL, s_Ln, s_LR, s_LC, u_s]; rfl
      · simp (disch := omega) only [s_II, s_In, s_IJ, s_IA, s_IL, s_IR, s_IC, s_JI, s_JJ, s_Jn, s_JA, s_JL, s_JR, s_JC, s_AI, s_AJ, s_AA, s_An, s_AL, s_AR, s_AC, s_LI, s_LJ, s_LA, s_LL, s_Ln, s_LR, s_LC, u_s]; rfl
      · simp (disch := omega) only [s_II, s_In, s_IJ, s_IA, s_IL, s_IR, s_IC, s_JI, s_JJ, s_Jn, s_JA, s_JL, s_JR, s_JC, s_AI, s_AJ, s_AA, s_An, s_AL, s_AR, s_AC, s_LI, s_LJ, s_LA, s_LL, s_Ln, s_LR, s_LC, u_s]; rfl)
    rw [h0] at v1
    have e : f_X3_hear_70v1 (f + 1) q (nI d) U = f_X3_hear_70v1 f q (nI (d + 1)) V := by
      rw [f_X3_hear_70v1]
      replace v1 : f_X3_hearDebt_5 FU q (nI d) (nI 0) (nI 0) _ = some V := v1
      simp (disch := omega) only [k_let, Option.bind_some, ↓reduceIte, eq_self, true_or, or_true, n01_0, n01_1, kb_or, kb_0T, kb_0F, vn_0, vn_1, vn_k, nl_0, nl_1, nl_2, nl_3, nl_4, nl_5, nl_6, nl_7, nl_8, nl_9, nl_10, nl_11, nl_12, nl_13, nl_14, nl_15, nl_16, nl_20, nl_21, nl_22, nl_23, nl_24, nl_25, nl_26, nl_27, nl_28, nl_29, nl_30, nl_31, nl_32, nl_40, nl_41, nl_42, nl_43, nl_45, nl_47, nl_48, nl_50, nl_57, nl_59, nl_60, nl_61, nl_62, nl_63, nl_64, nl_91, nl_93, nl_94, nl_97, nl_98, nl_100, nl_110, nl_122, nl_130, nl_144, nl_160, nl_240, nl_241, nl_255, nl_256, nl_400, nl_800, nl_900, nl_999, nl_1000, nl_1001, nl_1024, nl_1103, nl_1928, nl_4321, nl_5560, nl_12345, nl_1000000, nl_1000003, nl_252645135, nl_858993459, nl_1431655765, nl_1000000000, nI_add, pk_mul, n_sub, n_neg, n_cl, leT, leF, ltT, ltF, eqT, eqF, kbT, s_II, s_In, s_IJ, s_IA, s_IL, s_IR, s_IC, s_JI, s_JJ, s_Jn, s_JA, s_JL, s_JR, s_JC, s_AI, s_AJ, s_AA, s_An, s_AL, s_AR, s_AC, s_LI, s_LJ, s_LA, s_LL, s_Ln, s_LR, s_LC, h1, e_lenD hU hdn, f_X3_hear_125v1, f_X3_hearDebt, v1]
    rw [e]
    refine ih f (d + 1) V (by omega) (by omega) (fT.trans v2) (fun k hk => ?_)
    obtain ⟨j1, j2, j3, j4⟩ := v3
    by_cases q : k = d
    · rw [q]; exact ⟨j1, j2, j3⟩
    · obtain ⟨i1, i2, i3⟩ := j4 k q
      rw [i1, i2, i3]
      simp (disch := omega) only [s_II, s_In, s_IJ, s_IA, s_IL, s_IR, s_IC, s_JI, s_JJ, s_Jn, s_JA, s_JL, s_JR, s_JC, s_AI, s_AJ, s_AA, s_An, s_AL, s_AR, s_AC, s_LI, s_LJ, s_LA, s_LL, s_Ln, s_LR, s_LC, u_n]
      exact hx k (by omega)
/-- the verdicts for a law's clauses, or without a law -/
def VdOf (r : Nat → Int32) (V : Nat → Vd) : Prop := (r 3 = iZ (-1) ∧ ∀ d, d < nD r → V d = (dLn r d, false, false)) ∨ (∃ f, r 3 = nI f ∧ f < rN r 2 ∧ ∃ (nc : Nat) (kd pc : Nat → Nat) (ds dt : Nat → Den) (len : Nat) (a : Nat → Int32), nc ≤ 12 ∧ pc 0 = 0 ∧ len = 2 * pc nc ∧ len ≤ 800 ∧ r (160 + 900 * f + 1) = nI nc ∧ (∀ c, c < nc → kd c < 3 ∧ T01 (dt c) ∧ ClC a (pc c) (pc (c + 1)) (kd c) (ds c) (dt c) ∧ ClM (fun i => r (160 + 900 * f + i)) c (kd c) (ds c) (dt c)) ∧ ∀ d, d < nD r → V d = vgo kd ds dt (envD r d) (dLn r d, false, false) nc)
/-- the class's verdicts are V wherever the village is that of S -/
def VerC (r : Nat → Int32) (S : St) (V : Nat → Vd) : Prop := ∀ T, Ic r T → gC T = gC S → gR T 0 = gR S 0 → ∃ T', f_X3_hear T = some T' ∧ Fr [9] [] [18, 19, 20, 21, 22] [] T T' ∧ JaC r T' V (nD r)
theorem jaC_e {r : Nat → Int32} {U : St} {V V' : Nat → Vd} {n : Nat} (h : JaC r U V n) (e : ∀ d, d < n → V' d = V d) : JaC r U V' n := fun d hd => by rw [e d hd]; exact h d hd
theorem verC {r : Nat → Int32} {S : St} (hS : Ic r S) : ∃ V, VdOf r V ∧ VerC r S V := by
  have w := hS.1
  have hr3 := w.2.2.2.1
  have pre : ∀ T, Ic r T → ∃ U, f_X3_hear T = f_X3_hear_60 U ∧ Fr [] [] [21] [] T U ∧ DbO r U := fun T hT => by
    obtain ⟨A, a1, a2, a3⟩ := e_fill21 (S := T)
    obtain ⟨B, b1, b2, b3⟩ := l_hear10 (hT.fr a2 rfl rfl) (nD r) FU 0 A (by omega) (FU_ge (by have := w.n16; omega)) (Fr.refl _) a3
    refine ⟨B, ?_, a2.trans b2, b3⟩
    unfold f_X3_hear
    simp only [nl_0, nl_1, nl_2, nl_3, nl_4, nl_5, nl_6, nl_7, nl_8, nl_9, nl_10, nl_11, nl_12, nl_13, nl_14, nl_15, nl_16, nl_20, nl_21, nl_22, nl_23, nl_24, nl_25, nl_26, nl_27, nl_28, nl_29, nl_30, nl_31, nl_32, nl_40, nl_41, nl_42, nl_43, nl_45, nl_47, nl_48, nl_50, nl_57, nl_59, nl_60, nl_61, nl_62, nl_63, nl_64, nl_91, nl_93, nl_94, nl_97, nl_98, nl_100, nl_110, nl_122, nl_130, nl_144, nl_160, nl_240, nl_241, nl_255, nl_256, nl_400, nl_800, nl_900, nl_999, nl_1000, nl_1001, nl_1024, nl_1103, nl_1928, nl_4321, nl_5560, nl_12345, nl_1000000, nl_1000003, nl_252645135, nl_858993459, nl_1431655765, nl_1000000000, a1, Option.bind_some, b1]
  rcases hr3 with hr3 | hr3
  · refine ⟨fun d => (dLn r d, false, false), Or.inl ⟨hr3, fun _ _ => rfl⟩, fun T hT hC hR => ?_⟩
    obtain ⟨U, u1, u2, u3⟩ := pre T hT
    have hU := hT.fr u2 rfl rfl
    obtain ⟨V, v1, v2, v3⟩ := l_hear70 hU (nD r) FU 0 U (by omega) (FU_ge (by have := w.n16; omega)) (Fr.refl _) (fun d hd => absurd hd (Nat.not_lt_zero _))
    refine ⟨V, ?_, (u2.mono rfl rfl rfl rfl).trans (v2.mono rfl rfl rfl rfl), v3⟩
    rw [u1]
    have e4 : gI U 4 = iZ (-1) := hU.2.1.2.2.2.2.1.trans hr3
    have hn : ¬ (0 ≤ (iZ (-1)).toInt ∧ (iZ (-1)).toInt < (rN r 2 : Int)) := by rw [z_ti (by decide) (by decide)]; omega
    unfold f_X3_hear_60 f_X10_lawInForce f_X10_lawInForce_24
    simp (disch := omega) only [k_let, Option.bind_some, ↓reduceIte, eq_self, true_or, or_true, n01_0, n01_1, kb_or, kb_0T, kb_0F, vn_0, vn_1, vn_k, nl_0, nl_1, nl_2, nl_3, nl_4, nl_5, nl_6, nl_7, nl_8, nl_9, nl_10, nl_11, nl_12, nl_13, nl_14, nl_15, nl_16, nl_20, nl_21, nl_22, nl_23, nl_24, nl_25, nl_26, nl_27, nl_28, nl_29, nl_30, nl_31, nl_32, nl_40, nl_41, nl_42, nl_43, nl_45, nl_47, nl_48, nl_50, nl_57, nl_59, nl_60, nl_61, nl_62, nl_63, nl_64, nl_91, nl_93, nl_94, nl_97, nl_98, nl_100, nl_110, nl_122, nl_130, nl_144, nl_160, nl_240, nl_241, nl_255, nl_256, nl_400, nl_800, nl_900, nl_999, nl_1000, nl_1001, nl_1024, nl_1103, nl_1928, nl_4321, nl_5560, nl_12345, nl_1000000, nl_1000003, nl_252645135, nl_858993459, nl_1431655765, nl_1000000000, nI_add, pk_mul, n_sub, n_neg, n_cl, leT, leF, ltT, ltF, eqT, eqF, kbT, s_II, s_In, s_IJ, s_IA, s_IL, s_IR, s_IC, s_JI, s_JJ, s_Jn, s_JA, s_JL, s_JR, s_JC, s_AI, s_AJ, s_AA, s_An, s_AL, s_AR, s_AC, s_LI, s_LJ, s_LA, s_LL, s_Ln, s_LR, s_LC, e4, e_hasLaw hU, decide_eq_false hn, v1]
  · obtain ⟨nc, kd, pc, ds, dt, l1, l2, l3, l4, l5, l6⟩ := (hS.2.2.2.2.2.2.2 _ hr3.2).2.choose_spec.2
    generalize hxx : (hS.2.2.2.2.2.2.2 _ hr3.2).2.choose = xx at l3 l4 l6
    have hq0 := (hS.2.2.2.2.2.2.2 _ hr3.2).1
    have hcode := (hS.2.2.2.2.2.2.2 _ hr3.2).2.choose_spec.1
    rw [hxx] at hcode
    refine ⟨fun d => vgo kd ds dt (envD r d) (dLn r d, false, false) nc, Or.inr ⟨rN r 3, hr3.1, hr3.2, nc, kd, pc, ds, dt, xx.1, xx.2, l1, l2, l3, l4, l5, l6, fun _ _ => rfl⟩, fun T hT hC hR => ?_⟩
    obtain ⟨U, u1, u2, u3⟩ := pre T hT
    have hU := hT.fr u2 rfl rfl
    have hkU : k_code U (gR S 0 (rN r 3) - 1) = some (xx.1, xx.2) := by
      unfold k_code
      rw [u2.2.2.2.2.2, hC]
      exact hcode
    obtain ⟨V, v1, v2, v3⟩ := l_hear70v l4 l1 l2 l3 l6 hkU hU u3 (nD r) FU 0 U (by omega) (FU_ge (by have := w.n16; omega)) (Fr.refl _) (fun d hd => absurd hd (Nat.not_lt_zero _))
    refine ⟨V, ?_, (u2.mono rfl rfl rfl rfl).trans (v2.mono rfl rfl rfl rfl), v3⟩
    rw [u1]
    have e4 : gI U 4 = nI (rN r 3) := hU.2.1.2.2.2.2.1.trans hr3.1
    have hR2 : gR U 0 = gR S 0 := (u2.2.2.2.2.1 0).trans hR
    have h6 : rN r 2 < 7 := w.2.2.1.2
    have hf := hr3.2
    have hn : decide (0 ≤ (nI (rN r 3)).toInt ∧ (nI (rN r 3)).toInt < (rN r 2 : Int)) = true := by rw [n_ti (by omega)]; exact decide_eq_true (by omega)
    unfold f_X3_hear_60 f_X10_lawInForce f_X10_lawInForce_24 f_X10_lawInForce_24v1
    have q1 : ¬ gR S 0 (rN r 3) = 0 := by omega
    have q2 : ¬ gR S 0 (rN r 3) - 1 + 1 = 0 := by omega
    simp (disch := omega) only [k_let, Option.bind_some, ↓reduceIte, eq_self, true_or, or_true, n01_0, n01_1, kb_or, kb_0T, kb_0F, vn_0, vn_1, vn_k, nl_0, nl_1, nl_2, nl_3, nl_4, nl_5, nl_6, nl_7, nl_8, nl_9, nl_10, nl_11, nl_12, nl_13, nl_14, nl_15, nl_16, nl_20, nl_21, nl_22, nl_23, nl_24, nl_25, nl_26, nl_27, nl_28, nl_29, nl_30, nl_31, nl_32, nl_40, nl_41, nl_42, nl_43, nl_45, nl_47, nl_48, nl_50, nl_57, nl_59, nl_60, nl_61, nl_62, nl_63, nl_64, nl_91, nl_93, nl_94, nl_97, nl_98, nl_100, nl_110, nl_122, nl_130, nl_144, nl_160, nl_240, nl_241, nl_255, nl_256, nl_400, nl_800, nl_900, nl_999, nl_1000, nl_1001, nl_1024, nl_1103, nl_1928, nl_4321, nl_5560, nl_12345, nl_1000000, nl_1000003, nl_252645135, nl_858993459, nl_1431655765, nl_1000000000, nI_add, pk_mul, n_sub, n_neg, n_cl, leT, leF, ltT, ltF, eqT, eqF, kbT, s_II, s_In, s_IJ, s_IA, s_IL, s_IR, s_IC, s_JI, s_JJ, s_Jn, s_JA, s_JL, s_JR, s_JC, s_AI, s_AJ, s_AA, s_An, s_AL, s_AR, s_AC, s_LI, s_LJ, s_LA, s_LL, s_Ln, s_LR, s_LC, e4, e_hasLaw hU, hn, kB_t, hR2, q1, q2, Nat.add_sub_cancel, v1]
