/-! part 64: row -/
def gnI : List Nat := [0, 1, 2, 3, 4, 5, 6, 7, 8, 36, 30, 35, 31, 40, 32, 34, 9, 10, 11, 12, 13, 14, 15, 16, 17, 18, 19, 20, 21, 22, 23, 24, 25, 26, 27, 29, 33, 37, 38, 39, 41, 42, 43, 44, 45, 46, 47, 48, 49, 50, 51, 52, 53]
def gnA : List Nat := [1, 3, 4, 5, 6, 7, 9, 10, 11, 12, 13, 14, 16, 50, 52, 53, 56, 18, 19, 20, 21, 22, 24, 26, 27, 28, 30, 31, 38, 40, 42, 43, 45, 57, 58, 59, 60, 61, 66, 67, 68, 69, 70, 71, 72, 73, 74, 75, 76, 77, 78, 79]
theorem gnI_55 {k : Nat} (h : 55 ≤ k) : k ∉ gnI := by
  intro q
  simp only [gnI, List.mem_cons, List.not_mem_nil, or_false] at q
  omega
theorem gnA_81 {k : Nat} (h : 81 ≤ k) : k ∉ gnA := by
  intro q
  simp only [gnA, List.mem_cons, List.not_mem_nil, or_false] at q
  omega
theorem Im.gn {S T : St} {k : Nat} (h : Im S k) (f : Fr gnI scJ gnA scL S T) : Im T k := by
  rcases h with ⟨h1, h2⟩ | ⟨h1, h2, h3⟩
  · exact Or.inl ⟨by rw [f.2.2.2.2.1]; exact h1, by rw [f.A (k := 55) rfl]; exact h2⟩
  · refine Or.inr ⟨by rw [f.2.2.2.2.1]; exact h1, by rw [f.A (k := 55) rfl]; exact h2, ?_⟩
    rw [f.2.2.2.2.2, f.2.2.2.2.1, f.A (k := 54) rfl]
    exact h3.congr (fun i _ => f.1 _ (gnI_55 (by omega))) (fun j _ => f.2.2.1 _ (gnA_81 (by omega))) (fun _ => rfl)
/-- all but images, evenings and constants may have changed -/
theorem Inv.gen {S T : St} (h : Inv S) (f : Fr gnI scJ gnA scL S T) (hR : Rv (gI T) (gA T) (gR T 0) (gC T) (gA T 53)) (ht : Tp T) (hs : gI T 30 = gI T 35 ∧ gI T 31 = gI T 40 ∧ gI T 32 = gI T 34) (h50 : Rf T) : Inv T := by
  obtain ⟨-, -, -, -, ⟨p1, p2⟩, ⟨m0, m1⟩, c1, c2, c3, kv⟩ := h
  refine ⟨hR, ht, hs, h50, ⟨?_, ?_⟩, ⟨m0.gn f, m1.gn f⟩, ?_, ?_, ?_, kv.fr f⟩
  · rw [f.I (k := 28) rfl, f.I (k := 54) rfl]; exact p1
  · rw [f.I (k := 28) rfl, f.A (k := 46) rfl, f.A (k := 47) rfl, f.A (k := 80) rfl]; exact p2
  · rw [f.L (k := 62) rfl]; exact c1
  · rw [f.L (k := 63) rfl]; exact c2
  · rw [f.L (k := 37) rfl]; exact c3
/-- a debt more -/
def adD (r : Nat → Int32) (o c t x : Int32) : Nat → Int32 := upd (upd (upd (upd (upd (upd r (14 + 5 * rN r 1) o) (14 + 5 * rN r 1 + 1) c) (14 + 5 * rN r 1 + 2) t) (14 + 5 * rN r 1 + 3) x) (14 + 5 * rN r 1 + 4) (nI (rN r 7))) 1 (nI (rN r 1 + 1))
/-- what stands at place k of the tape g, t bytes long, can come -/
def okR (r g : Nat → Int32) (t k : Nat) : Prop := k + 3 < t ∧ rN r 1 < 16 ∧ ((0 ≤ (g k).toInt ∧ (g k).toInt ≤ 7) ∧ (0 ≤ (g (k + 1)).toInt ∧ (g (k + 1)).toInt ≤ 7) ∧ g k ≠ g (k + 1) ∧ (1 ≤ (g (k + 3)).toInt ∧ (g (k + 3)).toInt ≤ 9)) ∧ (0 ≤ (g (k + 2)).toInt ∧ (g (k + 2)).toInt < rN r 0)
noncomputable def rowR (g : Nat → Int32) (t : Nat) : Nat → Nat → (Nat → Int32) × Nat × Nat → (Nat → Int32) × Nat × Nat
  | 0, _, x => x
  | n + 1, k, x => if t ≤ k then x else
      haveI := Classical.propDecidable (okR x.1 g t k)
      rowR g t n (k + 4) (if okR x.1 g t k then (adD x.1 (g k) (g (k + 1)) (g (k + 2)) (g (k + 3)), x.2.1 + 1, x.2.2) else (x.1, x.2.1, x.2.2 + 1))
theorem wf_adD {r g : Nat → Int32} {t k : Nat} (w : Wf r) (ok : okR r g t k) : Wf (adD r (g k) (g (k + 1)) (g (k + 2)) (g (k + 3))) := by
  obtain ⟨-, hn, ⟨h1, h2, h3, h4⟩, h5⟩ := ok
  have ht := w.t6
  obtain ⟨o, ex, ho, -⟩ := rng_n (x := g k) (n := 8) (by omega)
  obtain ⟨q, ey, hq, -⟩ := rng_n (x := g (k + 1)) (n := 8) (by omega)
  obtain ⟨u, ez, hu, -⟩ := rng_n h5
  obtain ⟨y, ew, hy, -⟩ := rng_n (x := g (k + 3)) (n := 10) (by omega)
  have hoq : o ≠ q := fun e => h3 (by rw [ex, ey, e])
  have hy0 : 0 < y := by have := h4.1; rw [ew, n_ti (by omega)] at this; omega
  unfold adD
  rw [ex, ey, ez, ew]
  exact wf_debt w ho hq hoq hu hy hy0 w.e7 hn
theorem e_addD {r g : Nat → Int32} {t k : Nat} {U : St} (h : Ic r U) (ok : okR r g t k) : ∃ V, f_X1_add (g k) (g (k + 1)) (g (k + 2)) (g (k + 3)) (nI (rN r 7)) U = some (nI (rN r 1), V) ∧ Fr [1] [] [3, 4, 5, 6, 7] [] U V ∧ Ic (adD r (g k) (g (k + 1)) (g (k + 2)) (g (k + 3))) V := by
  have hw := wf_adD h.1 ok
  obtain ⟨-, hn, ⟨h1, h2, h3, h4⟩, h5⟩ := ok
  have ht := h.1.t6
  refine ⟨sI (sA (sA (sA (sA (sA U 3 (rN r 1) (g k)) 4 (rN r 1) (g (k + 1))) 5 (rN r 1) (g (k + 2))) 6 (rN r 1) (g (k + 3))) 7 (rN r 1) (nI (rN r 7))) 1 (nI (rN r 1 + 1)), ?_, ((((((Fr.refl U).sA rfl _ _).sA rfl _ _).sA rfl _ _).sA rfl _ _).sA rfl _ _).sI rfl _, hw, ?_⟩
  · have e1 : gI U 1 = nI (rN r 1) := h.I1
    unfold f_X1_add
    simp (disch := omega) only [k_let, Option.bind_some, ↓reduceIte, eq_self, true_or, or_true, n01_0, n01_1, kb_or, kb_0T, kb_0F, vn_0, vn_1, vn_k, nl_0, nl_1, nl_2, nl_3, nl_4, nl_5, nl_6, nl_7, nl_8, nl_9, nl_10, nl_11, nl_12, nl_13, nl_14, nl_15, nl_16, nl_20, nl_21, nl_22, nl_23, nl_24, nl_25, nl_26, nl_27, nl_28, nl_29, nl_30, nl_31, nl_32, nl_40, nl_41, nl_42, nl_43, nl_45, nl_47, nl_48, nl_50, nl_57, nl_59, nl_60, nl_61, nl_62, nl_63, nl_64, nl_91, nl_93, nl_94, nl_97, nl_98, nl_100, nl_110, nl_122, nl_130, nl_144, nl_160, nl_240, nl_241, nl_255, nl_256, nl_400, nl_800, nl_900, nl_999, nl_1000, nl_1001, nl_1024, nl_1103, nl_1928, nl_4321, nl_5560, nl_12345, nl_1000000, nl_1000003, nl_252645135, nl_858993459, nl_1431655765, nl_1000000000, nI_add, pk_mul, n_sub, n_neg, n_cl, leT, leF, ltT, ltF, eqT, eqF, kbT, s_II, s_In, s_IJ, s_IA, s_IL, s_IR, s_IC, s_JI, s_JJ, s_Jn, s_JA, s_JL, s_JR, s_JC, s_AI, s_AJ, s_AA, s_An, s_AL, s_AR, s_AC, s_LI, s_LJ, s_LA, s_LL, s_Ln, s_LR, s_LC, zleT, zleF, zltT, zltF, zeqT, zeqF, nzleT, nzleF, nzltT, nzltF, nzeqT, nzeqF, znleT, znleF, znltT, znltF, zneqT, zneqF, z_add, z_sub, z_mul, z_neg, z_an, z_na, z_sn, z_ns, z_mn, z_nm, Nat.add_sub_cancel, decide_true, decide_false, and_self, e_done, e_ref1, e_ref2, e_ref3, e_ref5, e_ref6, e_tel1, e_tel2, e_tel3, e_tel5, e_tel6, e_telN, rfT_m, e1]
  · obtain ⟨o, ex, ho, -⟩ := rng_n (x := g k) (n := 8) (by omega)
    obtain ⟨q, ey, hq, -⟩ := rng_n (x := g (k + 1)) (n := 8) (by omega)
    obtain ⟨u, ez, hu, -⟩ := rng_n h5
    obtain ⟨y, ew, hy, -⟩ := rng_n (x := g (k + 3)) (n := 10) (by omega)
    have := rc_debt h.1 h.2 (o := o) (c := q) (t := u) (x := y) (s := rN r 7) hn
    unfold adD
    rw [ex, ey, ez, ew]
    exact this
theorem e_byte {U : St} {g : Nat → Int32} {t k : Nat} (ht : t ≤ 400) (h8 : gI U 8 = nI t) (hk : k < t) (hg : gA U 16 k &&& nI 255 = g k) : f_X9_byteAt (nI k) U = some (g k, U) := by
  unfold f_X9_byteAt f_X9_byteAt_32 f_X9_byteAt_33
  simp (disch := omega) only [k_let, Option.bind_some, ↓reduceIte, eq_self, true_or, or_true, n01_0, n01_1, kb_or, kb_0T, kb_0F, vn_0, vn_1, vn_k, nl_0, nl_1, nl_2, nl_3, nl_4, nl_5, nl_6, nl_7, nl_8, nl_9, nl_10, nl_11, nl_12, nl_13, nl_14, nl_15, nl_16, nl_20, nl_21, nl_22, nl_23, nl_24, nl_25, nl_26, nl_27, nl_28, nl_29, nl_30, nl_31, nl_32, nl_40, nl_41, nl_42, nl_43, nl_45, nl_47, nl_48, nl_50, nl_57, nl_59, nl_60, nl_61, nl_62, nl_63, nl_64, nl_91, nl_93, nl_94, nl_97, nl_98, nl_100, nl_110, nl_122, nl_130, nl_144, nl_160, nl_240, nl_241, nl_255, nl_256, nl_400, nl_800, nl_900, nl_999, nl_1000, nl_1001, nl_1024, nl_1103, nl_1928, nl_4321, nl_5560, nl_12345, nl_1000000, nl_1000003, nl_252645135, nl_858993459, nl_1431655765, nl_1000000000, nI_add, pk_mul, n_sub, n_neg, n_cl, leT, leF, ltT, ltF, eqT, eqF, kbT, s_II, s_In, s_IJ, s_IA, s_IL, s_IR, s_IC, s_JI, s_JJ, s_Jn, s_JA, s_JL, s_JR, s_JC, s_AI, s_AJ, s_AA, s_An, s_AL, s_AR, s_AC, s_LI, s_LJ, s_LA, s_LL, s_Ln, s_LR, s_LC, h8, hg]
theorem l_row {S : St} {g : Nat → Int32} {t : Nat} (ht : t ≤ 400) (h8 : gI S 8 = nI t) (hg : ∀ i, i < t → gA S 16 i &&& nI 255 = g i) : ∀ (m f k : Nat) (x : (Nat → Int32) × Nat × Nat) (U : St), t ≤ k + 4 * m → m < f → k ≤ 403 → x.2.1 + x.2.2 ≤ k → Ic x.1 U → Fr [1] [] [3, 4, 5, 6, 7] [] S U →
    ∃ V, f_X11_row_23 f (nI x.2.1) (nI x.2.2) (nI k) U = some (nI (rowR g t m k x).2.1, sI (sI (sI V 8 (nI 0)) 30 (nI (rowR g t m k x).2.2)) 32 (nI 0)) ∧ Ic (rowR g t m k x).1 V ∧ Fr [1] [] [3, 4, 5, 6, 7] [] S V ∧ (rowR g t m k x).2.1 + (rowR g t m k x).2.2 ≤ 403 := by
  intro m
  induction m with
  | zero =>
    intro f k x U h1 hf hk hx hI hF
    obtain ⟨f, rfl⟩ : ∃ g, f = g + 1 := ⟨f - 1, by omega⟩
    have e8 : gI U 8 = nI t := (hF.I (k := 8) rfl).trans h8
    refine ⟨U, ?_, hI, hF, by show x.2.1 + x.2.2 ≤ 403; omega⟩
    rw [f_X11_row_23]
    simp (disch := omega) only [k_let, Option.bind_some, ↓reduceIte, eq_self, true_or, or_true, n01_0, n01_1, kb_or, kb_0T, kb_0F, vn_0, vn_1, vn_k, nl_0, nl_1, nl_2, nl_3, nl_4, nl_5, nl_6, nl_7, nl_8, nl_9, nl_10, nl_11, nl_12, nl_13, nl_14, nl_15, nl_16, nl_20, nl_21, nl_22, nl_23, nl_24, nl_25, nl_26, nl_27, nl_28, nl_29, nl_30, nl_31, nl_32, nl_40, nl_41, nl_42, nl_43, nl_45, nl_47, nl_48, nl_50, nl_57, nl_59, nl_60, nl_61, nl_62, nl_63, nl_64, nl_91, nl_93, nl_94, nl_97, nl_98, nl_100, nl_110, nl_122, nl_130, nl_144, nl_160, nl_240, nl_241, nl_255, nl_256, nl_400, nl_800, nl_900, nl_999, nl_1000, nl_1001, nl_1024, nl_1103, nl_1928, nl_4321, nl_5560, nl_12345, nl_1000000, nl_1000003, nl_252645135, nl_858993459, nl_1431655765, nl_1000000000, nI_add, pk_mul, n_sub, n_neg, n_cl, leT, leF, ltT, ltF, eqT, eqF, kbT, s_II, s_In, s_IJ, s_IA, s_IL, s_IR, s_IC, s_JI, s_JJ, s_Jn, s_JA, s_JL, s_JR, s_JC, s_AI, s_AJ, s_AA, s_An, s_AL, s_AR, s_AC, s_LI, s_LJ, s_LA, s_LL, s_Ln, s_LR, s_LC, zleT, zleF, zltT, zltF, zeqT, zeqF, nzleT, nzleF, nzltT, nzltF, nzeqT, nzeqF, znleT, znleF, znltT, znltF, zneqT, zneqF, z_add, z_sub, z_mul, z_neg, z_an, z_na, z_sn, z_ns, z_mn, z_nm, Nat.add_sub_cancel, decide_true, decide_false, and_self, e_done, e_ref1, e_ref2, e_ref3, e_ref5, e_ref6, e_tel1, e_tel2, e_tel3, e_tel5, e_tel6, e_telN, rfT_m, e8]
    rfl
  | succ m ih =>
    intro f k x U h1 hf hk hx hI hF
    obtain ⟨f, rfl⟩ : ∃ g, f = g + 1 := ⟨f - 1, by omega⟩
    have e8 : gI U 8 = nI t := (hF.I (k := 8) rfl).trans h8
    have e16 : gA U 16 = gA S 16 := hF.A rfl
    have h16 := hI.1.n16
    have e1 : gI U 1 = nI (rN x.1 1) := hI.I1
    unfold nD at h16
    by_cases q : t ≤ k
    · rw [rowR, if_pos q]
      refine ⟨U, ?_, hI, hF, by omega⟩
      rw [f_X11_row_23]
      simp (disch := omega) only [k_let, Option.bind_some, ↓reduceIte, eq_self, true_or, or_true, n01_0, n01_1, kb_or, kb_0T, kb_0F, vn_0, vn_1, vn_k, nl_0, nl_1, nl_2, nl_3, nl_4, nl_5, nl_6, nl_7, nl_8, nl_9, nl_10, nl_11, nl_12, nl_13, nl_14, nl_15, nl_16, nl_20, nl_21, nl_22, nl_23, nl_24, nl_25, nl_26, nl_27, nl_28, nl_29, nl_30, nl_31, nl_32, nl_40, nl_41, nl_42, nl_43, nl_45, nl_47, nl_48, nl_50, nl_57, nl_59, nl_60, nl_61, nl_62, nl_63, nl_64, nl_91, nl_93, nl_94, nl_97, nl_98, nl_100, nl_110, nl_122, nl_130, nl_144, nl_160, nl_240, nl_241, nl_255, nl_256, nl_400, nl_800, nl_900, nl_999, nl_1000, nl_1001, nl_1024, nl_1103, nl_1928, nl_4321, nl_5560, nl_12345, nl_1000000, nl_1000003, nl_252645135, nl_858993459, nl_1431655765, nl_1000000000, nI_add, pk_mul, n_sub, n_neg, n_cl, leT, leF, ltT, ltF, eqT, eqF, kbT, s_II, s_In, s_IJ, s_IA, s_IL, s_IR, s_IC, s_JI, s_JJ, s_Jn, s_JA, s_JL, s_JR, s_JC, s_AI, s_AJ, s_AA, s_An, s_AL, s_AR, s_AC, s_LI, s_LJ, s_LA, s_LL, s_Ln, s_LR, s_LC, zleT, zleF, zltT, zltF, zeqT, zeqF, nzleT, nzleF, nzltT, nzltF, nzeqT, nzeqF, znleT, znleF, znltT, znltF, zneqT, zneqF, z_add, z_sub, z_mul, z_neg, z_an, z_na, z_sn, z_ns, z_mn, z_nm, Nat.add_sub_cancel, decide_true, decide_false, and_self, e_done, e_ref1, e_ref2, e_ref3, e_ref5, e_ref6, e_tel1, e_tel2, e_tel3, e_tel5, e_tel6, e_telN, rfT_m, e8]
    · rw [rowR, if_neg q]
      by_cases ok : okR x.1 g t k
      · rw [if_pos ok]
        obtain ⟨V, v1, v2, v3⟩ := e_addD hI ok
        have ok' := ok
        obtain ⟨o1, o2, o3, o4⟩ := ok'
        have e : f_X11_row_23 (f + 1) (nI x.2.1) (nI x.2.2) (nI k) U = f_X11_row_23 f (nI (x.2.1 + 1)) (nI x.2.2) (nI (k + 4)) V := by
          have b0 := e_byte (g := g) ht e8 (show k < t by omega) (by rw [e16]; exact hg k (by omega))
          have b1 := e_byte (g := g) ht e8 (show k + 1 < t by omega) (by rw [e16]; exact hg (k + 1) (by omega))
          have b2 := e_byte (g := g) ht e8 (show k + 2 < t by omega) (by rw [e16]; exact hg (k + 2) (by omega))
          have b3 := e_byte (g := g) ht e8 (show k + 3 < t by omega) (by rw [e16]; exact hg (k + 3) (by omega))
          rw [f_X11_row_23]
          simp (disch := omega) only [k_let, Option.bind_some, ↓reduceIte, eq_self, true_or, or_true, n01_0, n01_1, kb_or, kb_0T, kb_0F, vn_0, vn_1, vn_k, nl_0, nl_1, nl_2, nl_3, nl_4, nl_5, nl_6, nl_7, nl_8, nl_9, nl_10, nl_11, nl_12, nl_13, nl_14, nl_15, nl_16, nl_20, nl_21, nl_22, nl_23, nl_24, nl_25, nl_26, nl_27, nl_28, nl_29, nl_30, nl_31, nl_32, nl_40, nl_41, nl_42, nl_43, nl_45, nl_47, nl_48, nl_50, nl_57, nl_59, nl_60, nl_61, nl_62, nl_63, nl_64, nl_91, nl_93, nl_94, nl_97, nl_98, nl_100, nl_110, nl_122, nl_130, nl_144, nl_160, nl_240, nl_241, nl_255, nl_256, nl_400, nl_800, nl_900, nl_999, nl_1000, nl_1001, nl_1024, nl_1103, nl_1928, nl_4321, nl_5560, nl_12345, nl_1000000, nl_1000003, nl_252645135, nl_858993459, nl_1431655765, nl_1000000000, nI_add, pk_mul, n_sub, n_neg, n_cl, leT, leF, ltT, ltF, eqT, eqF, kbT, s_II, s_In, s_IJ, s_IA, s_IL, s_IR, s_IC, s_JI, s_JJ, s_Jn, s_JA, s_JL, s_JR, s_JC, s_AI, s_AJ, s_AA, s_An, s_AL, s_AR, s_AC, s_LI, s_LJ, s_LA, s_LL, s_Ln, s_LR, s_LC, zleT, zleF, zltT, zltF, zeqT, zeqF, nzleT, nzleF, nzltT, nzltF, nzeqT, nzeqF, znleT, znleF, znltT, znltF, zneqT, zneqF, z_add, z_sub, z_mul, z_neg, z_an, z_na, z_sn, z_ns, z_mn, z_nm, Nat.add_sub_cancel, decide_true, decide_false, and_self, e_done, e_ref1, e_ref2, e_ref3, e_ref5, e_ref6, e_tel1, e_tel2, e_tel3, e_tel5, e_tel6, e_telN, rfT_m, f_X11_comes, f_X11_comes_81, f_X11_comes_115, f_X11_row_51, e8, b0, b1, b2, b3, e_canOwe, decide_eq_true o3, e_hasTune hI, decide_eq_true o4, kB_t, hI.I2, v1]
        rw [e]
        exact ih f (k + 4) (adD x.1 (g k) (g (k + 1)) (g (k + 2)) (g (k + 3)), x.2.1 + 1, x.2.2) V (by omega) (by omega) (by omega) (by show x.2.1 + 1 + x.2.2 ≤ k + 4; omega) v3 (hF.trans v2)
      · rw [if_neg ok]
        have e : f_X11_row_23 (f + 1) (nI x.2.1) (nI x.2.2) (nI k) U = f_X11_row_23 f (nI x.2.1) (nI (x.2.2 + 1)) (nI (k + 4)) U := by
          rw [f_X11_row_23]
          by_cases c : k + 3 < t
          · have b0 := e_byte (g := g) ht e8 (show k < t by omega) (by rw [e16]; exact hg k (by omega))
            have b1 := e_byte (g := g) ht e8 (show k + 1 < t by omega) (by rw [e16]; exact hg (k + 1) (by omega))
            have b2 := e_byte (g := g) ht e8 (show k + 2 < t by omega) (by rw [e16]; exact hg (k + 2) (by omega))
            have b3 := e_byte (g := g) ht e8 (show k + 3 < t by omega) (by rw [e16]; exact hg (k + 3) (by omega))
            by_cases o3 : ((0 ≤ (g k).toInt ∧ (g k).toInt ≤ 7) ∧ (0 ≤ (g (k + 1)).toInt ∧ (g (k + 1)).toInt ≤ 7) ∧ g k ≠ g (k + 1) ∧ (1 ≤ (g (k + 3)).toInt ∧ (g (k + 3)).toInt ≤ 9))
            · by_cases o4 : (0 ≤ (g (k + 2)).toInt ∧ (g (k + 2)).toInt < rN x.1 0)
              · have o2 : ¬ rN x.1 1 < 16 := fun z => ok ⟨c, z, o3, o4⟩
                simp (maxSteps := 2000000) (disch := omega) only [k_let, Option.bind_some, ↓reduceIte, eq_self, true_or, or_true, n01_0, n01_1, kb_or, kb_0T, kb_0F, vn_0, vn_1, vn_k, nl_0, nl_1, nl_2, nl_3, nl_4, nl_5, nl_6, nl_7, nl_8, nl_9, nl_10, nl_11, nl_12, nl_13, nl_14, nl_15, nl_16, nl_20, nl_21, nl_22, nl_23, nl_24, nl_25, nl_26, nl_27, nl_28, nl_29, nl_30, nl_31, nl_32, nl_40, nl_41, nl_42, nl_43, nl_45, nl_47, nl_48, nl_50, nl_57, nl_59, nl_60, nl_61, nl_62, nl_63, nl_64, nl_91, nl_93, nl_94, nl_97, nl_98, nl_100, nl_110, nl_122, nl_130, nl_144, nl_160, nl_240, nl_241, nl_255, nl_256, nl_400, nl_800, nl_900, nl_999, nl_1000, nl_1001, nl_1024, nl_1103, nl_1928, nl_4321, nl_5560, nl_12345, nl_1000000, nl_1000003, nl_252645135, nl_858993459, nl_1431655765, nl_1000000000, nI_add, pk_mul, n_sub, n_neg, n_cl, leT, leF, ltT, ltF, eqT, eqF, kbT, s_II, s_In, s_IJ, s_IA, s_IL, s_IR, s_IC, s_JI, s_JJ, s_Jn, s_JA, s_JL, s_JR, s_JC, s_AI, s_AJ, s_AA, s_An, s_AL, s_AR, s_AC, s_LI, s_LJ, s_LA, s_LL, s_Ln, s_LR, s_LC, zleT, zleF, zltT, zltF, zeqT, zeqF, nzleT, nzleF, nzltT, nzltF, nzeqT, nzeqF, znleT, znleF, znltT, znltF, zneqT, zneqF, z_add, z_sub, z_mul, z_neg, z_an, z_na, z_sn, z_ns, z_mn, z_nm, Nat.add_sub_cancel, decide_true, decide_false, and_self, e_done, e_ref1, e_ref2, e_ref3, e_ref5, e_ref6, e_tel1, e_tel2, e_tel3, e_tel5, e_tel6, e_telN, rfT_m, f_X11_comes, f_X11_comes_81, f_X11_comes_115, f_X11_row_51, e8, b0, b1, b2, b3, e_canOwe, decide_eq_true o3, e_hasTune hI, decide_eq_true o4, kB_t, hI.I2, f_X1_add, e1]
              · simp (disch := omega) only [k_let, Option.bind_some, ↓reduceIte, eq_self, true_or, or_true, n01_0, n01_1, kb_or, kb_0T, kb_0F, vn_0, vn_1, vn_k, nl_0, nl_1, nl_2, nl_3, nl_4, nl_5, nl_6, nl_7, nl_8, nl_9, nl_10, nl_11, nl_12, nl_13, nl_14, nl_15, nl_16, nl_20, nl_21, nl_22, nl_23, nl_24, nl_25, nl_26, nl_27, nl_28, nl_29, nl_30, nl_31, nl_32, nl_40, nl_41, nl_42, nl_43, nl_45, nl_47, nl_48, nl_50, nl_57, nl_59, nl_60, nl_61, nl_62, nl_63, nl_64, nl_91, nl_93, nl_94, nl_97, nl_98, nl_100, nl_110, nl_122, nl_130, nl_144, nl_160, nl_240, nl_241, nl_255, nl_256, nl_400, nl_800, nl_900, nl_999, nl_1000, nl_1001, nl_1024, nl_1103, nl_1928, nl_4321, nl_5560, nl_12345, nl_1000000, nl_1000003, nl_252645135, nl_858993459, nl_1431655765, nl_1000000000, nI_add, pk_mul, n_sub, n_neg, n_cl, leT, leF, ltT, ltF, eqT, eqF, kbT, s_II, s_In, s_IJ, s_IA, s_IL, s_IR, s_IC, s_JI, s_JJ, s_Jn, s_JA, s_JL, s_JR, s_JC, s_AI, s_AJ, s_AA, s_An, s_AL, s_AR, s_AC, s_LI, s_LJ, s_LA, s_LL, s_Ln, s_LR, s_LC, zleT, zleF, zltT, zltF, zeqT, zeqF, nzleT, nzleF, nzltT, nzltF, nzeqT, nzeqF, znleT, znleF, znltT, znltF, zneqT, zneqF, z_add, z_sub, z_mul, z_neg, z_an, z_na, z_sn, z_ns, z_mn, z_nm, Nat.add_sub_cancel, decide_true, decide_false, and_self, e_done, e_ref1, e_ref2, e_ref3, e_ref5, e_ref6, e_tel1, e_tel2, e_tel3, e_tel5, e_tel6, e_telN, rfT_m, f_X11_comes, f_X11_comes_81, f_X11_comes_115, f_X11_row_51, e8, b0, b1, b2, b3, e_canOwe, decide_eq_true o3, e_hasTune hI, decide_eq_false o4, kB_t]
            · simp (disch := omega) only [k_let, Option.bind_some, ↓reduceIte, eq_self, true_or, or_true, n01_0, n01_1, kb_or, kb_0T, kb_0F, vn_0, vn_1, vn_k, nl_0, nl_1, nl_2, nl_3, nl_4, nl_5, nl_6, nl_7, nl_8, nl_9, nl_10, nl_11, nl_12, nl_13, nl_14, nl_15, nl_16, nl_20, nl_21, nl_22, nl_23, nl_24, nl_25, nl_26, nl_27, nl_28, nl_29, nl_30, nl_31, nl_32, nl_40, nl_41, nl_42, nl_43, nl_45, nl_47, nl_48, nl_50, nl_57, nl_59, nl_60, nl_61, nl_62, nl_63, nl_64, nl_91, nl_93, nl_94, nl_97, nl_98, nl_100, nl_110, nl_122, nl_130, nl_144, nl_160, nl_240, nl_241, nl_255, nl_256, nl_400, nl_800, nl_900, nl_999, nl_1000, nl_1001, nl_1024, nl_1103, nl_1928, nl_4321, nl_5560, nl_12345, nl_1000000, nl_1000003, nl_252645135, nl_858993459, nl_1431655765, nl_1000000000, nI_add, pk_mul, n_sub, n_neg, n_cl, leT, leF, ltT, ltF, eqT, eqF, kbT, s_II, s_In, s_IJ, s_IA, s_IL, s_IR, s_IC, s_JI, s_JJ, s_Jn, s_JA, s_JL, s_JR, s_JC, s_AI, s_AJ, s_AA, s_An, s_AL, s_AR, s_AC, s_LI, s_LJ, s_LA, s_LL, s_Ln, s_LR, s_LC, zleT, zleF, zltT, zltF, zeqT, zeqF, nzleT, nzleF, nzltT, nzltF, nzeqT, nzeqF, znleT, znleF, znltT, znltF, zneqT, zneqF, z_add, z_sub, z_mul, z_neg, z_an, z_na, z_sn, z_ns, z_mn, z_nm, Nat.add_sub_cancel, decide_true, decide_false, and_self, e_done, e_ref1, e_ref2, e_ref3, e_ref5, e_ref6, e_tel1, e_tel2, e_tel3, e_tel5, e_tel6, e_telN, rfT_m, f_X11_comes, f_X11_comes_81, f_X11_comes_115, f_X11_row_51, e8, b0, b1, b2, b3, e_canOwe, decide_eq_false o3]
          · simp (disch := omega) only [k_let, Option.bind_some, ↓reduceIte, eq_self, true_or, or_true, n01_0, n01_1, kb_or, kb_0T, kb_0F, vn_0, vn_1, vn_k, nl_0, nl_1, nl_2, nl_3, nl_4, nl_5, nl_6, nl_7, nl_8, nl_9, nl_10, nl_11, nl_12, nl_13, nl_14, nl_15, nl_16, nl_20, nl_21, nl_22, nl_23, nl_24, nl_25, nl_26, nl_27, nl_28, nl_29, nl_30, nl_31, nl_32, nl_40, nl_41, nl_42, nl_43, nl_45, nl_47, nl_48, nl_50, nl_57, nl_59, nl_60, nl_61, nl_62, nl_63, nl_64, nl_91, nl_93, nl_94, nl_97, nl_98, nl_100, nl_110, nl_122, nl_130, nl_144, nl_160, nl_240, nl_241, nl_255, nl_256, nl_400, nl_800, nl_900, nl_999, nl_1000, nl_1001, nl_1024, nl_1103, nl_1928, nl_4321, nl_5560, nl_12345, nl_1000000, nl_1000003, nl_252645135, nl_858993459, nl_1431655765, nl_1000000000, nI_add, pk_mul, n_sub, n_neg, n_cl, leT, leF, ltT, ltF, eqT, eqF, kbT, s_II, s_In, s_IJ, s_IA, s_IL, s_IR, s_IC, s_JI, s_JJ, s_Jn, s_JA, s_JL, s_JR, s_JC, s_AI, s_AJ, s_AA, s_An, s_AL, s_AR, s_AC, s_LI, s_LJ, s_LA, s_LL, s_Ln, s_LR, s_LC, zleT, zleF, zltT, zltF, zeqT, zeqF, nzleT, nzleF, nzltT, nzltF, nzeqT, nzeqF, znleT, znleF, znltT, znltF, zneqT, zneqF, z_add, z_sub, z_mul, z_neg, z_an, z_na, z_sn, z_ns, z_mn, z_nm, Nat.add_sub_cancel, decide_true, decide_false, and_self, e_done, e_ref1, e_ref2, e_ref3, e_ref5, e_ref6, e_tel1, e_tel2, e_tel3, e_tel5, e_tel6, e_telN, rfT_m, f_X11_comes, f_X11_row_51, e8]
        rw [e]
        exact ih f (k + 4) (x.1, x.2.1, x.2.2 + 1) U (by omega) (by omega) (by omega) (by show x.2.1 + (x.2.2 + 1) ≤ k + 4; omega) hI hF
theorem l_mrow {S : St} {g : Nat → Int32} {t : Nat} (ht : t ≤ 400) (hg : gA S 56 = g) : ∀ (m f k : Nat) (x : (Nat → Int32) × Nat × Nat) (U : St), t ≤ k + 4 * m → m < f → k ≤ 403 → x.2.1 + x.2.2 ≤ k → Wf x.1 → gA U 53 = x.1 → gI U 35 = nI x.2.2 → Fr [35] [] [53] [] S U →
    ∃ V, f_X12_row_35 f (nI t) (nI x.2.1) (nI k) U = some (nI (rowR g t m k x).2.1, sI V 34 (nI 0)) ∧ gA V 53 = (rowR g t m k x).1 ∧ gI V 35 = nI (rowR g t m k x).2.2 ∧ Fr [35] [] [53] [] S V := by
  intro m
  induction m with
  | zero =>
    intro f k x U h1 hf hk hx hw hI h35 hF
    obtain ⟨f, rfl⟩ : ∃ g, f = g + 1 := ⟨f - 1, by omega⟩
    refine ⟨U, ?_, hI, h35, hF⟩
    rw [f_X12_row_35]
    simp (disch := omega) only [k_let, Option.bind_some, ↓reduceIte, eq_self, true_or, or_true, n01_0, n01_1, kb_or, kb_0T, kb_0F, vn_0, vn_1, vn_k, nl_0, nl_1, nl_2, nl_3, nl_4, nl_5, nl_6, nl_7, nl_8, nl_9, nl_10, nl_11, nl_12, nl_13, nl_14, nl_15, nl_16, nl_20, nl_21, nl_22, nl_23, nl_24, nl_25, nl_26, nl_27, nl_28, nl_29, nl_30, nl_31, nl_32, nl_40, nl_41, nl_42, nl_43, nl_45, nl_47, nl_48, nl_50, nl_57, nl_59, nl_60, nl_61, nl_62, nl_63, nl_64, nl_91, nl_93, nl_94, nl_97, nl_98, nl_100, nl_110, nl_122, nl_130, nl_144, nl_160, nl_240, nl_241, nl_255, nl_256, nl_400, nl_800, nl_900, nl_999, nl_1000, nl_1001, nl_1024, nl_1103, nl_1928, nl_4321, nl_5560, nl_12345, nl_1000000, nl_1000003, nl_252645135, nl_858993459, nl_1431655765, nl_1000000000, nI_add, pk_mul, n_sub, n_neg, n_cl, leT, leF, ltT, ltF, eqT, eqF, kbT, s_II, s_In, s_IJ, s_IA, s_IL, s_IR, s_IC, s_JI, s_JJ, s_Jn, s_JA, s_JL, s_JR, s_JC, s_AI, s_AJ, s_AA, s_An, s_AL, s_AR, s_AC, s_LI, s_LJ, s_LA, s_LL, s_Ln, s_LR, s_LC, zleT, zleF, zltT, zltF, zeqT, zeqF, nzleT, nzleF, nzltT, nzltF, nzeqT, nzeqF, znleT, znleF, znltT, znltF, zneqT, zneqF, z_add, z_sub, z_mul, z_neg, z_an, z_na, z_sn, z_ns, z_mn, z_nm, Nat.add_sub_cancel, decide_true, decide_false, and_self, e_done, e_ref1, e_ref2, e_ref3, e_ref5, e_ref6, e_tel1, e_tel2, e_tel3, e_tel5, e_tel6, e_telN, rfT_m]
    rfl
  | succ m ih =>
    intro f k x U h1 hf hk hx hw hI h35 hF
    obtain ⟨f, rfl⟩ : ∃ g, f = g + 1 := ⟨f - 1, by omega⟩
    have e56 : gA U 56 = g := (hF.A rfl).trans hg
    have hr : Ir x.1 U := ⟨hw, hI⟩
    have h16 := hw.n16
    unfold nD at h16
    have e1 : f_X12_debts U = some (nI (rN x.1 1), U) := e_m_n hr
    by_cases q : t ≤ k
    · rw [rowR, if_pos q]
      refine ⟨U, ?_, hI, h35, hF⟩
      rw [f_X12_row_35]
      simp (disch := omega) only [k_let, Option.bind_some, ↓reduceIte, eq_self, true_or, or_true, n01_0, n01_1, kb_or, kb_0T, kb_0F, vn_0, vn_1, vn_k, nl_0, nl_1, nl_2, nl_3, nl_4, nl_5, nl_6, nl_7, nl_8, nl_9, nl_10, nl_11, nl_12, nl_13, nl_14, nl_15, nl_16, nl_20, nl_21, nl_22, nl_23, nl_24, nl_25, nl_26, nl_27, nl_28, nl_29, nl_30, nl_31, nl_32, nl_40, nl_41, nl_42, nl_43, nl_45, nl_47, nl_48, nl_50, nl_57, nl_59, nl_60, nl_61, nl_62, nl_63, nl_64, nl_91, nl_93, nl_94, nl_97, nl_98, nl_100, nl_110, nl_122, nl_130, nl_144, nl_160, nl_240, nl_241, nl_255, nl_256, nl_400, nl_800, nl_900, nl_999, nl_1000, nl_1001, nl_1024, nl_1103, nl_1928, nl_4321, nl_5560, nl_12345, nl_1000000, nl_1000003, nl_252645135, nl_858993459, nl_1431655765, nl_1000000000, nI_add, pk_mul, n_sub, n_neg, n_cl, leT, leF, ltT, ltF, eqT, eqF, kbT, s_II, s_In, s_IJ, s_IA, s_IL, s_IR, s_IC, s_JI, s_JJ, s_Jn, s_JA, s_JL, s_JR, s_JC, s_AI, s_AJ, s_AA, s_An, s_AL, s_AR, s_AC, s_LI, s_LJ, s_LA, s_LL, s_Ln, s_LR, s_LC, zleT, zleF, zltT, zltF, zeqT, zeqF, nzleT, nzleF, nzltT, nzltF, nzeqT, nzeqF, znleT, znleF, znltT, znltF, zneqT, zneqF, z_add, z_sub, z_mul, z_neg, z_an, z_na, z_sn, z_ns, z_mn, z_nm, Nat.add_sub_cancel, decide_true, decide_false, and_self, e_done, e_ref1, e_ref2, e_ref3, e_ref5, e_ref6, e_tel1, e_tel2, e_tel3, e_tel5, e_tel6, e_telN, rfT_m]
    · rw [rowR, if_neg q]
      by_cases ok : okR x.1 g t k
      · rw [if_pos ok]
        have wd := wf_adD hw ok
        have ok' := ok
        obtain ⟨o1, o2, o3, o4⟩ := ok'
        have e : f_X12_row_35 (f + 1) (nI t) (nI x.2.1) (nI k) U = f_X12_row_35 f (nI t) (nI (x.2.1 + 1)) (nI (k + 4)) (sA (sA (sA (sA (sA (sA U 53 (14 + 5 * rN x.1 1) (g k)) 53 (14 + 5 * rN x.1 1 + 1) (g (k + 1))) 53 (14 + 5 * rN x.1 1 + 2) (g (k + 2))) 53 (14 + 5 * rN x.1 1 + 3) (g (k + 3))) 53 (14 + 5 * rN x.1 1 + 4) (nI (rN x.1 7))) 53 1 (nI (rN x.1 1 + 1))) := by
          rw [f_X12_row_35]
          simp (maxSteps := 2000000) (disch := omega) only [k_let, Option.bind_some, ↓reduceIte, eq_self, true_or, or_true, n01_0, n01_1, kb_or, kb_0T, kb_0F, vn_0, vn_1, vn_k, nl_0, nl_1, nl_2, nl_3, nl_4, nl_5, nl_6, nl_7, nl_8, nl_9, nl_10, nl_11, nl_12, nl_13, nl_14, nl_15, nl_16, nl_20, nl_21, nl_22, nl_23, nl_24, nl_25, nl_26, nl_27, nl_28, nl_29, nl_30, nl_31, nl_32, nl_40, nl_41, nl_42, nl_43, nl_45, nl_47, nl_48, nl_50, nl_57, nl_59, nl_60, nl_61, nl_62, nl_63, nl_64, nl_91, nl_93, nl_94, nl_97, nl_98, nl_100, nl_110, nl_122, nl_130, nl_144, nl_160, nl_240, nl_241, nl_255, nl_256, nl_400, nl_800, nl_900, nl_999, nl_1000, nl_1001, nl_1024, nl_1103, nl_1928, nl_4321, nl_5560, nl_12345, nl_1000000, nl_1000003, nl_252645135, nl_858993459, nl_1431655765, nl_1000000000, nI_add, pk_mul, n_sub, n_neg, n_cl, leT, leF, ltT, ltF, eqT, eqF, kbT, s_II, s_In, s_IJ, s_IA, s_IL, s_IR, s_IC, s_JI, s_JJ, s_Jn, s_JA, s_JL, s_JR, s_JC, s_AI, s_AJ, s_AA, s_An, s_AL, s_AR, s_AC, s_LI, s_LJ, s_LA, s_LL, s_Ln, s_LR, s_LC, zleT, zleF, zltT, zltF, zeqT, zeqF, nzleT, nzleF, nzltT, nzltF, nzeqT, nzeqF, znleT, znleF, znltT, znltF, zneqT, zneqF, z_add, z_sub, z_mul, z_neg, z_an, z_na, z_sn, z_ns, z_mn, z_nm, Nat.add_sub_cancel, decide_true, decide_false, and_self, e_done, e_ref1, e_ref2, e_ref3, e_ref5, e_ref6, e_tel1, e_tel2, e_tel3, e_tel5, e_tel6, e_telN, rfT_m, f_X12_row_60, f_X12_row_61, f_X12_row_151, f_X12_row_161, e1, e56, e_m_canOwe, decide_eq_true o3, e_m_isTune hr, decide_eq_true o4, kB_t, f_X12_addDebt, e_debts, hI, hw.r1, hw.r7, nD, u_n, u_s]
        rw [e]
        exact ih f (k + 4) (adD x.1 (g k) (g (k + 1)) (g (k + 2)) (g (k + 3)), x.2.1 + 1, x.2.2) _ (by omega) (by omega) (by omega) (by show x.2.1 + 1 + x.2.2 ≤ k + 4; omega) wd (by unfold adD; rw [← hI]; rfl) h35 ((((((hF.sA rfl _ _).sA rfl _ _).sA rfl _ _).sA rfl _ _).sA rfl _ _).sA rfl _ _)
      · rw [if_neg ok]
        have e : f_X12_row_35 (f + 1) (nI t) (nI x.2.1) (nI k) U = f_X12_row_35 f (nI t) (nI x.2.1) (nI (k + 4)) (sI U 35 (nI (x.2.2 + 1))) := by
          rw [f_X12_row_35]
          by_cases c : k + 3 < t
          · by_cases o2 : rN x.1 1 < 16
            · by_cases o3 : ((0 ≤ (g k).toInt ∧ (g k).toInt ≤ 7) ∧ (0 ≤ (g (k + 1)).toInt ∧ (g (k + 1)).toInt ≤ 7) ∧ g k ≠ g (k + 1) ∧ (1 ≤ (g (k + 3)).toInt ∧ (g (k + 3)).toInt ≤ 9))
              · have o4 : ¬ (0 ≤ (g (k + 2)).toInt ∧ (g (k + 2)).toInt < rN x.1 0) := fun z => ok ⟨c, o2, o3, z⟩
                simp (disch := omega) only [k_let, Option.bind_some, ↓reduceIte, eq_self, true_or, or_true, n01_0, n01_1, kb_or, kb_0T, kb_0F, vn_0, vn_1, vn_k, nl_0, nl_1, nl_2, nl_3, nl_4, nl_5, nl_6, nl_7, nl_8, nl_9, nl_10, nl_11, nl_12, nl_13, nl_14, nl_15, nl_16, nl_20, nl_21, nl_22, nl_23, nl_24, nl_25, nl_26, nl_27, nl_28, nl_29, nl_30, nl_31, nl_32, nl_40, nl_41, nl_42, nl_43, nl_45, nl_47, nl_48, nl_50, nl_57, nl_59, nl_60, nl_61, nl_62, nl_63, nl_64, nl_91, nl_93, nl_94, nl_97, nl_98, nl_100, nl_110, nl_122, nl_130, nl_144, nl_160, nl_240, nl_241, nl_255, nl_256, nl_400, nl_800, nl_900, nl_999, nl_1000, nl_1001, nl_1024, nl_1103, nl_1928, nl_4321, nl_5560, nl_12345, nl_1000000, nl_1000003, nl_252645135, nl_858993459, nl_1431655765, nl_1000000000, nI_add, pk_mul, n_sub, n_neg, n_cl, leT, leF, ltT, ltF, eqT, eqF, kbT, s_II, s_In, s_IJ, s_IA, s_IL, s_IR, s_IC, s_JI, s_JJ, s_Jn, s_JA, s_JL, s_JR, s_JC, s_AI, s_AJ, s_AA, s_An, s_AL, s_AR, s_AC, s_LI, s_LJ, s_LA, s_LL, s_Ln, s_LR, s_LC, zleT, zleF, zltT, zltF, zeqT, zeqF, nzleT, nzleF, nzltT, nzltF, nzeqT, nzeqF, znleT, znleF, znltT, znltF, zneqT, zneqF, z_add, z_sub, z_mul, z_neg, z_an, z_na, z_sn, z_ns, z_mn, z_nm, Nat.add_sub_cancel, decide_true, decide_false, and_self, e_done, e_ref1, e_ref2, e_ref3, e_ref5, e_ref6, e_tel1, e_tel2, e_tel3, e_tel5, e_tel6, e_telN, rfT_m, f_X12_row_60, f_X12_row_61, f_X12_row_151, f_X12_row_161, e1, e56, e_m_canOwe, decide_eq_true o3, e_m_isTune hr, decide_eq_false o4, kB_t, h35]
              · simp (disch := omega) only [k_let, Option.bind_some, ↓reduceIte, eq_self, true_or, or_true, n01_0, n01_1, kb_or, kb_0T, kb_0F, vn_0, vn_1, vn_k, nl_0, nl_1, nl_2, nl_3, nl_4, nl_5, nl_6, nl_7, nl_8, nl_9, nl_10, nl_11, nl_12, nl_13, nl_14, nl_15, nl_16, nl_20, nl_21, nl_22, nl_23, nl_24, nl_25, nl_26, nl_27, nl_28, nl_29, nl_30, nl_31, nl_32, nl_40, nl_41, nl_42, nl_43, nl_45, nl_47, nl_48, nl_50, nl_57, nl_59, nl_60, nl_61, nl_62, nl_63, nl_64, nl_91, nl_93, nl_94, nl_97, nl_98, nl_100, nl_110, nl_122, nl_130, nl_144, nl_160, nl_240, nl_241, nl_255, nl_256, nl_400, nl_800, nl_900, nl_999, nl_1000, nl_1001, nl_1024, nl_1103, nl_1928, nl_4321, nl_5560, nl_12345, nl_1000000, nl_1000003, nl_252645135, nl_858993459, nl_1431655765, nl_1000000000, nI_add, pk_mul, n_sub, n_neg, n_cl, leT, leF, ltT, ltF, eqT, eqF, kbT, s_II, s_In, s_IJ, s_IA, s_IL, s_IR, s_IC, s_JI, s_JJ, s_Jn, s_JA, s_JL, s_JR, s_JC, s_AI, s_AJ, s_AA, s_An, s_AL, s_AR, s_AC, s_LI, s_LJ, s_LA, s_LL, s_Ln, s_LR, s_LC, zleT, zleF, zltT, zltF, zeqT, zeqF, nzleT, nzleF, nzltT, nzltF, nzeqT, nzeqF, znleT, znleF, znltT, znltF, zneqT, zneqF, z_add, z_sub, z_mul, z_neg, z_an, z_na, z_sn, z_ns, z_mn, z_nm, Nat.add_sub_cancel, decide_true, decide_false, and_self, e_done, e_ref1, e_ref2, e_ref3, e_ref5, e_ref6, e_tel1, e_tel2, e_tel3, e_tel5, e_tel6, e_telN, rfT_m, f_X12_row_60, f_X12_row_61, f_X12_row_151, f_X12_row_161, e1, e56, e_m_canOwe, decide_eq_false o3, h35]
            · simp (disch := omega) only [k_let, Option.bind_some, ↓reduceIte, eq_self, true_or, or_true, n01_0, n01_1, kb_or, kb_0T, kb_0F, vn_0, vn_1, vn_k, nl_0, nl_1, nl_2, nl_3, nl_4, nl_5, nl_6, nl_7, nl_8, nl_9, nl_10, nl_11, nl_12, nl_13, nl_14, nl_15, nl_16, nl_20, nl_21, nl_22, nl_23, nl_24, nl_25, nl_26, nl_27, nl_28, nl_29, nl_30, nl_31, nl_32, nl_40, nl_41, nl_42, nl_43, nl_45, nl_47, nl_48, nl_50, nl_57, nl_59, nl_60, nl_61, nl_62, nl_63, nl_64, nl_91, nl_93, nl_94, nl_97, nl_98, nl_100, nl_110, nl_122, nl_130, nl_144, nl_160, nl_240, nl_241, nl_255, nl_256, nl_400, nl_800, nl_900, nl_999, nl_1000, nl_1001, nl_1024, nl_1103, nl_1928, nl_4321, nl_5560, nl_12345, nl_1000000, nl_1000003, nl_252645135, nl_858993459, nl_1431655765, nl_1000000000, nI_add, pk_mul, n_sub, n_neg, n_cl, leT, leF, ltT, ltF, eqT, eqF, kbT, s_II, s_In, s_IJ, s_IA, s_IL, s_IR, s_IC, s_JI, s_JJ, s_Jn, s_JA, s_JL, s_JR, s_JC, s_AI, s_AJ, s_AA, s_An, s_AL, s_AR, s_AC, s_LI, s_LJ, s_LA, s_LL, s_Ln, s_LR, s_LC, zleT, zleF, zltT, zltF, zeqT, zeqF, nzleT, nzleF, nzltT, nzltF, nzeqT, nzeqF, znleT, znleF, znltT, znltF, zneqT, zneqF, z_add, z_sub, z_mul, z_neg, z_an, z_na, z_sn, z_ns, z_mn, z_nm, Nat.add_sub_cancel, decide_true, decide_false, and_self, e_done, e_ref1, e_ref2, e_ref3, e_ref5, e_ref6, e_tel1, e_tel2, e_tel3, e_tel5, e_tel6, e_telN, rfT_m, f_X12_row_60, f_X12_row_61, f_X12_row_151, f_X12_row_161, e1, h35]
          · simp (disch := omega) only [k_let, Option.bind_some, ↓reduceIte, eq_self, true_or, or_true, n01_0, n01_1, kb_or, kb_0T, kb_0F, vn_0, vn_1, vn_k, nl_0, nl_1, nl_2, nl_3, nl_4, nl_5, nl_6, nl_7, nl_8, nl_9, nl_10, nl_11, nl_12, nl_13, nl_14, nl_15, nl_16, nl_20, nl_21, nl_22, nl_23, nl_24, nl_25, nl_26, nl_27, nl_28, nl_29, nl_30, nl_31, nl_32, nl_40, nl_41, nl_42, nl_43, nl_45, nl_47, nl_48, nl_50, nl_57, nl_59, nl_60, nl_61, nl_62, nl_63, nl_64, nl_91, nl_93, nl_94, nl_97, nl_98, nl_100, nl_110, nl_122, nl_130, nl_144, nl_160, nl_240, nl_241, nl_255, nl_256, nl_400, nl_800, nl_900, nl_999, nl_1000, nl_1001, nl_1024, nl_1103, nl_1928, nl_4321, nl_5560, nl_12345, nl_1000000, nl_1000003, nl_252645135, nl_858993459, nl_1431655765, nl_1000000000, nI_add, pk_mul, n_sub, n_neg, n_cl, leT, leF, ltT, ltF, eqT, eqF, kbT, s_II, s_In, s_IJ, s_IA, s_IL, s_IR, s_IC, s_JI, s_JJ, s_Jn, s_JA, s_JL, s_JR, s_JC, s_AI, s_AJ, s_AA, s_An, s_AL, s_AR, s_AC, s_LI, s_LJ, s_LA, s_LL, s_Ln, s_LR, s_LC, zleT, zleF, zltT, zltF, zeqT, zeqF, nzleT, nzleF, nzltT, nzltF, nzeqT, nzeqF, znleT, znleF, znltT, znltF, zneqT, zneqF, z_add, z_sub, z_mul, z_neg, z_an, z_na, z_sn, z_ns, z_mn, z_nm, Nat.add_sub_cancel, decide_true, decide_false, and_self, e_done, e_ref1, e_ref2, e_ref3, e_ref5, e_ref6, e_tel1, e_tel2, e_tel3, e_tel5, e_tel6, e_telN, rfT_m, f_X12_row_60, f_X12_row_61, f_X12_row_151, f_X12_row_161, h35]
        rw [e]
        exact ih f (k + 4) (x.1, x.2.1, x.2.2 + 1) _ (by omega) (by omega) (by omega) (by show x.2.1 + (x.2.2 + 1) ≤ k + 4; omega) hw hI (s_II _ _ _) (hF.sI rfl _)
theorem p_row : Pr f_X11_row f_X12_row := by
  intro S h
  have hv := Iv.of h
  generalize hr : gA S 53 = r at hv
  have hw := hv.wf
  obtain ⟨t, ht, h8, h36, hb⟩ := h.2.1.n
  unfold f_X11_row f_X12_row
  by_cases c : t = 0
  · subst c
    have f : Fr gnI scJ gnA scL S (tlT (iZ (-((6 : Nat) : Int))) 6 (sI (sI (rfT (iZ (-((6 : Nat) : Int))) 4 S) 33 (nI 0)) 36 (nI 0))) := ((((((Fr.refl S).sI (k := 32) rfl _).sA (k := 50) rfl _ _).sI (k := 33) rfl _).sI (k := 36) rfl _).sI (k := 34) rfl _).sA (k := 52) rfl _ _
    refine ⟨iZ (-((6 : Nat) : Int)), rfT (iZ (-((6 : Nat) : Int))) 4 S, tlT (iZ (-((6 : Nat) : Int))) 6 (sI (sI (rfT (iZ (-((6 : Nat) : Int))) 4 S) 33 (nI 0)) 36 (nI 0)), ?_, ?_, h.gen f ?_ ?_ ?_ ?_⟩
    · simp (disch := omega) only [k_let, Option.bind_some, ↓reduceIte, eq_self, true_or, or_true, n01_0, n01_1, kb_or, kb_0T, kb_0F, vn_0, vn_1, vn_k, nl_0, nl_1, nl_2, nl_3, nl_4, nl_5, nl_6, nl_7, nl_8, nl_9, nl_10, nl_11, nl_12, nl_13, nl_14, nl_15, nl_16, nl_20, nl_21, nl_22, nl_23, nl_24, nl_25, nl_26, nl_27, nl_28, nl_29, nl_30, nl_31, nl_32, nl_40, nl_41, nl_42, nl_43, nl_45, nl_47, nl_48, nl_50, nl_57, nl_59, nl_60, nl_61, nl_62, nl_63, nl_64, nl_91, nl_93, nl_94, nl_97, nl_98, nl_100, nl_110, nl_122, nl_130, nl_144, nl_160, nl_240, nl_241, nl_255, nl_256, nl_400, nl_800, nl_900, nl_999, nl_1000, nl_1001, nl_1024, nl_1103, nl_1928, nl_4321, nl_5560, nl_12345, nl_1000000, nl_1000003, nl_252645135, nl_858993459, nl_1431655765, nl_1000000000, nI_add, pk_mul, n_sub, n_neg, n_cl, leT, leF, ltT, ltF, eqT, eqF, kbT, s_II, s_In, s_IJ, s_IA, s_IL, s_IR, s_IC, s_JI, s_JJ, s_Jn, s_JA, s_JL, s_JR, s_JC, s_AI, s_AJ, s_AA, s_An, s_AL, s_AR, s_AC, s_LI, s_LJ, s_LA, s_LL, s_Ln, s_LR, s_LC, zleT, zleF, zltT, zltF, zeqT, zeqF, nzleT, nzleF, nzltT, nzltF, nzeqT, nzeqF, znleT, znleF, znltT, znltF, zneqT, zneqF, z_add, z_sub, z_mul, z_neg, z_an, z_na, z_sn, z_ns, z_mn, z_nm, Nat.add_sub_cancel, decide_true, decide_false, and_self, e_done, e_ref1, e_ref2, e_ref3, e_ref5, e_ref6, e_tel1, e_tel2, e_tel3, e_tel5, e_tel6, e_telN, rfT_m, h8]
    · have g36 : gI (rfT (iZ (-((6 : Nat) : Int))) 4 S) 36 = nI 0 := h36
      simp (disch := omega) only [k_let, Option.bind_some, ↓reduceIte, eq_self, true_or, or_true, n01_0, n01_1, kb_or, kb_0T, kb_0F, vn_0, vn_1, vn_k, nl_0, nl_1, nl_2, nl_3, nl_4, nl_5, nl_6, nl_7, nl_8, nl_9, nl_10, nl_11, nl_12, nl_13, nl_14, nl_15, nl_16, nl_20, nl_21, nl_22, nl_23, nl_24, nl_25, nl_26, nl_27, nl_28, nl_29, nl_30, nl_31, nl_32, nl_40, nl_41, nl_42, nl_43, nl_45, nl_47, nl_48, nl_50, nl_57, nl_59, nl_60, nl_61, nl_62, nl_63, nl_64, nl_91, nl_93, nl_94, nl_97, nl_98, nl_100, nl_110, nl_122, nl_130, nl_144, nl_160, nl_240, nl_241, nl_255, nl_256, nl_400, nl_800, nl_900, nl_999, nl_1000, nl_1001, nl_1024, nl_1103, nl_1928, nl_4321, nl_5560, nl_12345, nl_1000000, nl_1000003, nl_252645135, nl_858993459, nl_1431655765, nl_1000000000, nI_add, pk_mul, n_sub, n_neg, n_cl, leT, leF, ltT, ltF, eqT, eqF, kbT, s_II, s_In, s_IJ, s_IA, s_IL, s_IR, s_IC, s_JI, s_JJ, s_Jn, s_JA, s_JL, s_JR, s_JC, s_AI, s_AJ, s_AA, s_An, s_AL, s_AR, s_AC, s_LI, s_LJ, s_LA, s_LL, s_Ln, s_LR, s_LC, zleT, zleF, zltT, zltF, zeqT, zeqF, nzleT, nzleF, nzltT, nzltF, nzeqT, nzeqF, znleT, znleF, znltT, znltF, zneqT, zneqF, z_add, z_sub, z_mul, z_neg, z_an, z_na, z_sn, z_ns, z_mn, z_nm, Nat.add_sub_cancel, decide_true, decide_false, and_self, e_done, e_ref1, e_ref2, e_ref3, e_ref5, e_ref6, e_tel1, e_tel2, e_tel3, e_tel5, e_tel6, e_telN, rfT_m, g36]
    · exact h.1.congr (fun i hi => by
        show gI (sI (sI (sI (sI S 32 _) 33 _) 36 _) 34 _) i = gI S i
        rw [s_In (by omega), s_In (by omega), s_In (by omega), s_In (by omega)]) (fun j hj => by
        show gA (tlT (iZ (-((6 : Nat) : Int))) 6 (sI (sI (rfT (iZ (-((6 : Nat) : Int))) 4 S) 33 (nI 0)) 36 (nI 0))) j = gA S j
        unfold tlT rfT
        rw [s_An (by omega), s_IA, s_IA, s_IA, s_An (by omega), s_IA]) (fun _ => rfl)
    · exact Tp.of (t := 0) (by omega) h8 rfl (fun i hi => absurd hi (Nat.not_lt_zero _))
    · exact ⟨h.2.2.1.1, h.2.2.1.2.1, rfl⟩
    · obtain ⟨r0, r1, r2, r3, r4⟩ := h.2.2.2.1
      unfold Rf tlT rfT
      simp (disch := omega) only [s_II, s_In, s_IJ, s_IA, s_IL, s_IR, s_IC, s_JI, s_JJ, s_Jn, s_JA, s_JL, s_JR, s_JC, s_AI, s_AJ, s_AA, s_An, s_AL, s_AR, s_AC, s_LI, s_LJ, s_LA, s_LL, s_Ln, s_LR, s_LC, u_s, u_n, r0, r1, r2, r3, r4, and_self]
  · obtain ⟨V, a1, a2, a3, a4⟩ := l_row ht h8 (g := gA S 56) (fun i hi => (hb i hi).1) 101 FU 0 (r, 0, 0) S (by omega) (FU_ge (by omega)) (by omega) (Nat.le_refl 0) hv.c (Fr.refl _)
    generalize hX : rowR (gA S 56) t 101 0 (r, 0, 0) = X at a1 a2 a4
    generalize hT : sI (sI (sI V 8 (nI 0)) 30 (nI X.2.2)) 32 (nI 0) = T1 at a1
    have fT : Fr [1, 8, 30, 32] [] [3, 4, 5, 6, 7] [] S T1 := by
      rw [← hT]
      exact (((a3.mono rfl rfl rfl rfl : Fr [1, 8, 30, 32] [] [3, 4, 5, 6, 7] [] S V).sI (k := 8) rfl _).sI (k := 30) rfl _).sI (k := 32) rfl _
    have g56 : gA (sI (sI (sI T1 33 (nI 0)) 36 (nI 0)) 35 (nI 0)) 56 = gA S 56 := fT.A (k := 56) rfl
    have g53 : gA (sI (sI (sI T1 33 (nI 0)) 36 (nI 0)) 35 (nI 0)) 53 = r := (fT.A (k := 53) rfl).trans hr
    obtain ⟨W, b1, b2, b3, b4⟩ := l_mrow ht g56 101 FU 0 (r, 0, 0) (sI (sI (sI T1 33 (nI 0)) 36 (nI 0)) 35 (nI 0)) (by omega) (FU_ge (by omega)) (by omega) (Nat.le_refl 0) hw g53 (s_II _ _ _) (Fr.refl _)
    rw [hX] at b1 b2 b3
    have fW : Fr gnI scJ gnA scL S W := (((((fT.mono rfl rfl rfl rfl : Fr gnI scJ gnA scL S T1).sI (k := 33) rfl _).sI (k := 36) rfl _).sI (k := 35) rfl _).trans (b4.mono rfl rfl rfl rfl))
    refine ⟨nI X.2.1, T1, sI W 34 (nI 0), ?_, ?_, h.gen (fW.sI (k := 34) rfl _) ?_ ?_ ⟨?_, ?_, ?_⟩ ?_⟩
    · simp (disch := omega) only [k_let, Option.bind_some, ↓reduceIte, eq_self, true_or, or_true, n01_0, n01_1, kb_or, kb_0T, kb_0F, vn_0, vn_1, vn_k, nl_0, nl_1, nl_2, nl_3, nl_4, nl_5, nl_6, nl_7, nl_8, nl_9, nl_10, nl_11, nl_12, nl_13, nl_14, nl_15, nl_16, nl_20, nl_21, nl_22, nl_23, nl_24, nl_25, nl_26, nl_27, nl_28, nl_29, nl_30, nl_31, nl_32, nl_40, nl_41, nl_42, nl_43, nl_45, nl_47, nl_48, nl_50, nl_57, nl_59, nl_60, nl_61, nl_62, nl_63, nl_64, nl_91, nl_93, nl_94, nl_97, nl_98, nl_100, nl_110, nl_122, nl_130, nl_144, nl_160, nl_240, nl_241, nl_255, nl_256, nl_400, nl_800, nl_900, nl_999, nl_1000, nl_1001, nl_1024, nl_1103, nl_1928, nl_4321, nl_5560, nl_12345, nl_1000000, nl_1000003, nl_252645135, nl_858993459, nl_1431655765, nl_1000000000, nI_add, pk_mul, n_sub, n_neg, n_cl, leT, leF, ltT, ltF, eqT, eqF, kbT, s_II, s_In, s_IJ, s_IA, s_IL, s_IR, s_IC, s_JI, s_JJ, s_Jn, s_JA, s_JL, s_JR, s_JC, s_AI, s_AJ, s_AA, s_An, s_AL, s_AR, s_AC, s_LI, s_LJ, s_LA, s_LL, s_Ln, s_LR, s_LC, zleT, zleF, zltT, zltF, zeqT, zeqF, nzleT, nzleF, nzltT, nzltF, nzeqT, nzeqF, znleT, znleF, znltT, znltF, zneqT, zneqF, z_add, z_sub, z_mul, z_neg, z_an, z_na, z_sn, z_ns, z_mn, z_nm, Nat.add_sub_cancel, decide_true, decide_false, and_self, e_done, e_ref1, e_ref2, e_ref3, e_ref5, e_ref6, e_tel1, e_tel2, e_tel3, e_tel5, e_tel6, e_telN, rfT_m, h8]
      exact a1
    · have g36 : gI T1 36 = nI t := (fT.I (k := 36) rfl).trans h36
      simp (disch := omega) only [k_let, Option.bind_some, ↓reduceIte, eq_self, true_or, or_true, n01_0, n01_1, kb_or, kb_0T, kb_0F, vn_0, vn_1, vn_k, nl_0, nl_1, nl_2, nl_3, nl_4, nl_5, nl_6, nl_7, nl_8, nl_9, nl_10, nl_11, nl_12, nl_13, nl_14, nl_15, nl_16, nl_20, nl_21, nl_22, nl_23, nl_24, nl_25, nl_26, nl_27, nl_28, nl_29, nl_30, nl_31, nl_32, nl_40, nl_41, nl_42, nl_43, nl_45, nl_47, nl_48, nl_50, nl_57, nl_59, nl_60, nl_61, nl_62, nl_63, nl_64, nl_91, nl_93, nl_94, nl_97, nl_98, nl_100, nl_110, nl_122, nl_130, nl_144, nl_160, nl_240, nl_241, nl_255, nl_256, nl_400, nl_800, nl_900, nl_999, nl_1000, nl_1001, nl_1024, nl_1103, nl_1928, nl_4321, nl_5560, nl_12345, nl_1000000, nl_1000003, nl_252645135, nl_858993459, nl_1431655765, nl_1000000000, nI_add, pk_mul, n_sub, n_neg, n_cl, leT, leF, ltT, ltF, eqT, eqF, kbT, s_II, s_In, s_IJ, s_IA, s_IL, s_IR, s_IC, s_JI, s_JJ, s_Jn, s_JA, s_JL, s_JR, s_JC, s_AI, s_AJ, s_AA, s_An, s_AL, s_AR, s_AC, s_LI, s_LJ, s_LA, s_LL, s_Ln, s_LR, s_LC, zleT, zleF, zltT, zltF, zeqT, zeqF, nzleT, nzleF, nzltT, nzltF, nzeqT, nzeqF, znleT, znleF, znltT, znltF, zneqT, zneqF, z_add, z_sub, z_mul, z_neg, z_an, z_na, z_sn, z_ns, z_mn, z_nm, Nat.add_sub_cancel, decide_true, decide_false, and_self, e_done, e_ref1, e_ref2, e_ref3, e_ref5, e_ref6, e_tel1, e_tel2, e_tel3, e_tel5, e_tel6, e_telN, rfT_m, g36]
      exact b1
    · rw [s_IA, b2]
      have q : Rv (gI V) (gA V) (gR V 0) (gC V) X.1 := a2
      have k1 : ∀ i, i < 8 → gI (sI W 34 (nI 0)) i = gI V i := fun i hi => by
        rw [s_In (by omega), b4.1 i (by simp; omega), s_In (by omega), s_In (by omega), s_In (by omega), ← hT, s_In (by omega), s_In (by omega), s_In (by omega)]
      have k2 : ∀ j, j < 15 → gA (sI W 34 (nI 0)) j = gA V j := fun j hj => by
        rw [s_IA, b4.2.2.1 j (by simp; omega), s_IA, s_IA, s_IA, ← hT]; rfl
      have k3 : gC (sI W 34 (nI 0)) = gC V := by
        show gC W = gC V
        rw [b4.2.2.2.2.2, ← hT]; rfl
      rw [k3]
      exact q.congr k1 k2 (fun l => by
        show gR W 0 l = gR V 0 l
        rw [b4.2.2.2.2.1, ← hT]; rfl)
    · refine Tp.of (t := 0) (by omega) ?_ ?_ (fun i hi => absurd hi (Nat.not_lt_zero _))
      · rw [s_In (by decide), b4.I rfl, ← hT]; rfl
      · rw [s_In (by decide), b4.I rfl]; rfl
    · rw [s_In (by decide), s_In (by decide), b4.I rfl, b3, ← hT]; rfl
    · rw [s_In (by decide), s_In (by decide), b4.I rfl, b4.I rfl]
      show gI T1 31 = gI T1 40
      rw [fT.I rfl, fT.I rfl]; exact h.2.2.1.2.1
    · rw [s_II, s_In (by decide), b4.I rfl, ← hT]; rfl
    · unfold Rf
      rw [s_IA, s_IA, b4.A (k := 50) rfl, b4.A (k := 52) rfl]
      show gA T1 50 0 = gA T1 52 1 ∧ _
      rw [s_IA, s_IA, s_IA, s_IA, s_IA, s_IA, fT.A (k := 50) rfl, fT.A (k := 52) rfl]
      exact h.2.2.2.1
