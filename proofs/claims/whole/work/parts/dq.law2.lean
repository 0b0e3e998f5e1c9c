/-! part dq: law, both sides -/
def nwI : List Nat := [3, 8, 36, 31, 40, 32, 34, 10, 11, 12, 13, 14, 15, 16, 33, 37, 38, 39, 41, 42, 43, 44, 45, 46]
def nwA : List Nat := [24, 57, 58, 59, 60, 61, 50, 52, 53]
theorem p_law6 {S : St} (h : Inv S) (c6 : rN (gA S 53) 2 = 6) : ∃ a S1 S2, f_X11_law S = some (a, S1) ∧ f_X12_law S1 = some (a, S2) ∧ Inv S2 := by
  have hv := Iv.of h
  generalize hr : gA S 53 = r at hv c6
  have hw := hv.wf
  have n2 := hw.2.2.1
  have i3 : gI S 3 = nI (rN r 2) := hv.rc.1.2.2.2.1.trans n2.1
  have f : Fr gnI scJ gnA scL S (tlT (iZ (-((5 : Nat) : Int))) 5 (sI (sI (rfT (iZ (-((5 : Nat) : Int))) 3 (sI S 8 (nI 0))) 33 (nI 0)) 36 (nI 0))) := (((((((Fr.refl S).sI (k := 8) rfl _).sI (k := 32) rfl _).sA (k := 50) rfl _ _).sI (k := 33) rfl _).sI (k := 36) rfl _).sI (k := 34) rfl _).sA (k := 52) rfl _ _
  refine ⟨iZ (-((5 : Nat) : Int)), rfT (iZ (-((5 : Nat) : Int))) 3 (sI S 8 (nI 0)), tlT (iZ (-((5 : Nat) : Int))) 5 (sI (sI (rfT (iZ (-((5 : Nat) : Int))) 3 (sI S 8 (nI 0))) 33 (nI 0)) 36 (nI 0)), ?_, ?_, h.gen f ?_ ?_ ?_ ?_⟩
  · unfold f_X11_law
    rw [i3, c6, if_pos (show (6 : Int32) ≤ nI 6 from (show nI 6 ≤ nI 6 by rw [n_le (by decide) (by decide)]; exact Nat.le_refl 6))]
    unfold f_X11_law_56 f_X11_law_82
    simp (disch := omega) only [k_let, Option.bind_some, ↓reduceIte, eq_self, true_or, or_true, n01_0, n01_1, kb_or, kb_0T, kb_0F, vn_0, vn_1, vn_k, nl_0, nl_1, nl_2, nl_3, nl_4, nl_5, nl_6, nl_7, nl_8, nl_9, nl_10, nl_11, nl_12, nl_13, nl_14, nl_15, nl_16, nl_20, nl_21, nl_22, nl_23, nl_24, nl_25, nl_26, nl_27, nl_28, nl_29, nl_30, nl_31, nl_32, nl_40, nl_41, nl_42, nl_43, nl_45, nl_47, nl_48, nl_50, nl_57, nl_59, nl_60, nl_61, nl_62, nl_63, nl_64, nl_91, nl_93, nl_94, nl_97, nl_98, nl_100, nl_110, nl_122, nl_130, nl_144, nl_160, nl_240, nl_241, nl_255, nl_256, nl_400, nl_800, nl_900, nl_999, nl_1000, nl_1001, nl_1024, nl_1103, nl_1928, nl_4321, nl_5560, nl_12345, nl_1000000, nl_1000003, nl_252645135, nl_858993459, nl_1431655765, nl_1000000000, nI_add, pk_mul, n_sub, n_neg, n_cl, leT, leF, ltT, ltF, eqT, eqF, kbT, s_II, s_In, s_IJ, s_IA, s_IL, s_IR, s_IC, s_JI, s_JJ, s_Jn, s_JA, s_JL, s_JR, s_JC, s_AI, s_AJ, s_AA, s_An, s_AL, s_AR, s_AC, s_LI, s_LJ, s_LA, s_LL, s_Ln, s_LR, s_LC, zleT, zleF, zltT, zltF, zeqT, zeqF, nzleT, nzleF, nzltT, nzltF, nzeqT, nzeqF, znleT, znleF, znltT, znltF, zneqT, zneqF, z_add, z_sub, z_mul, z_neg, z_an, z_na, z_sn, z_ns, z_mn, z_nm, Nat.add_sub_cancel, decide_true, decide_false, and_self, e_done, e_ref1, e_ref2, e_ref3, e_ref5, e_ref6, e_tel1, e_tel2, e_tel3, e_tel5, e_tel6, e_telN, rfT_m]
  · unfold f_X12_law
    simp (disch := omega) only [k_let, Option.bind_some, ↓reduceIte, eq_self, true_or, or_true, n01_0, n01_1, kb_or, kb_0T, kb_0F, vn_0, vn_1, vn_k, nl_0, nl_1, nl_2, nl_3, nl_4, nl_5, nl_6, nl_7, nl_8, nl_9, nl_10, nl_11, nl_12, nl_13, nl_14, nl_15, nl_16, nl_20, nl_21, nl_22, nl_23, nl_24, nl_25, nl_26, nl_27, nl_28, nl_29, nl_30, nl_31, nl_32, nl_40, nl_41, nl_42, nl_43, nl_45, nl_47, nl_48, nl_50, nl_57, nl_59, nl_60, nl_61, nl_62, nl_63, nl_64, nl_91, nl_93, nl_94, nl_97, nl_98, nl_100, nl_110, nl_122, nl_130, nl_144, nl_160, nl_240, nl_241, nl_255, nl_256, nl_400, nl_800, nl_900, nl_999, nl_1000, nl_1001, nl_1024, nl_1103, nl_1928, nl_4321, nl_5560, nl_12345, nl_1000000, nl_1000003, nl_252645135, nl_858993459, nl_1431655765, nl_1000000000, nI_add, pk_mul, n_sub, n_neg, n_cl, leT, leF, ltT, ltF, eqT, eqF, kbT, s_II, s_In, s_IJ, s_IA, s_IL, s_IR, s_IC, s_JI, s_JJ, s_Jn, s_JA, s_JL, s_JR, s_JC, s_AI, s_AJ, s_AA, s_An, s_AL, s_AR, s_AC, s_LI, s_LJ, s_LA, s_LL, s_Ln, s_LR, s_LC, zleT, zleF, zltT, zltF, zeqT, zeqF, nzleT, nzleF, nzltT, nzltF, nzeqT, nzeqF, znleT, znleF, znltT, znltF, zneqT, zneqF, z_add, z_sub, z_mul, z_neg, z_an, z_na, z_sn, z_ns, z_mn, z_nm, Nat.add_sub_cancel, decide_true, decide_false, and_self, e_done, e_ref1, e_ref2, e_ref3, e_ref5, e_ref6, e_tel1, e_tel2, e_tel3, e_tel5, e_tel6, e_telN, rfT_m, hr, n2.1, c6]
  · exact h.1.congr (fun i hi => by
      show gI (sI (sI (sI (sI (sI S 8 _) 32 _) 33 _) 36 _) 34 _) i = gI S i
      rw [s_In (by omega), s_In (by omega), s_In (by omega), s_In (by omega), s_In (by omega)]) (fun j hj => by
      show gA (tlT (iZ (-((5 : Nat) : Int))) 5 (sI (sI (rfT (iZ (-((5 : Nat) : Int))) 3 (sI S 8 (nI 0))) 33 (nI 0)) 36 (nI 0))) j = gA S j
      unfold tlT rfT
      rw [s_An (by omega), s_IA, s_IA, s_IA, s_An (by omega), s_IA, s_IA]) (fun _ => rfl)
  · exact Tp.of (t := 0) (by omega) rfl rfl (fun i hi => absurd hi (Nat.not_lt_zero _))
  · exact ⟨h.2.2.1.1, h.2.2.1.2.1, rfl⟩
  · obtain ⟨r0, r1, r2, r3, r4⟩ := h.2.2.2.1
    unfold Rf tlT rfT
    simp (disch := omega) only [s_II, s_In, s_IJ, s_IA, s_IL, s_IR, s_IC, s_JI, s_JJ, s_Jn, s_JA, s_JL, s_JR, s_JC, s_AI, s_AJ, s_AA, s_An, s_AL, s_AR, s_AC, s_LI, s_LJ, s_LA, s_LL, s_Ln, s_LR, s_LC, u_s, u_n, r0, r1, r2, r3, r4, and_self]
theorem p_lawF {S V X T : St} {af : Nat} (h : Inv S) (fV : FK S V) (hX : X = rfT (iZ (-((6 : Nat) : Int))) 4 (sI (sI V 31 (nI af)) 8 (nI 0))) (fT : FRb (sI X 33 (nI 0)) T) (h41 : gI T 41 = nI 1) (h40 : gI T 40 = nI af) : ∃ W, f_X12_law_97 T = some (iZ (-((6 : Nat) : Int)), W) ∧ Inv W := by
  refine ⟨_, m_97no h41, ?_⟩
  have fX : Fr [8, 36, 31, 40, 32, 34, 10, 11, 12, 13, 14, 15, 16, 33, 37, 38, 39, 41, 42, 43, 44, 45, 46] [0] [24, 57, 58, 59, 60, 61, 50, 52] [] S X := by
    rw [hX]
    exact (((((fV.mono rfl rfl rfl rfl : Fr [8, 36, 31, 40, 32, 34, 10, 11, 12, 13, 14, 15, 16, 33, 37, 38, 39, 41, 42, 43, 44, 45, 46] [0] [24, 57, 58, 59, 60, 61, 50, 52] [] S V).sI (k := 31) rfl _).sI (k := 8) rfl _).sI (k := 32) rfl _).sA (k := 50) rfl _ _)
  have fT2 : Fr [8, 36, 31, 40, 32, 34, 10, 11, 12, 13, 14, 15, 16, 33, 37, 38, 39, 41, 42, 43, 44, 45, 46] [0] [24, 57, 58, 59, 60, 61, 50, 52] [] S T := (fX.sI (k := 33) rfl _).trans (fT.mono rfl rfl rfl rfl)
  have fW : Fr [8, 36, 31, 40, 32, 34, 10, 11, 12, 13, 14, 15, 16, 33, 37, 38, 39, 41, 42, 43, 44, 45, 46] [0] [24, 57, 58, 59, 60, 61, 50, 52] [] S (tlT (iZ (-((6 : Nat) : Int))) 6 (sI T 36 (nI 0))) := ((fT2.sI (k := 36) rfl _).sI (k := 34) rfl _).sA (k := 52) rfl _ _
  have x50 : gA X 50 = upd (gA S 50) 4 (gA S 50 4 + 1) := by
    rw [hX]
    show upd (gA V 50) 4 (gA V 50 4 + 1) = _
    rw [fV.A (k := 50) rfl]
  have x52 : gA X 52 = gA S 52 := by
    rw [hX]
    show gA V 52 = _
    rw [fV.A (k := 52) rfl]
  have t50 : gA T 50 = upd (gA S 50) 4 (gA S 50 4 + 1) := (fT.A (k := 50) rfl).trans x50
  have t52 : gA T 52 = gA S 52 := (fT.A (k := 52) rfl).trans x52
  refine h.gen (fW.mono rfl rfl rfl rfl) ?_ ?_ ⟨?_, ?_, ?_⟩ ?_
  · rw [fW.2.2.2.2.2, fW.2.2.2.2.1, fW.A (k := 53) rfl]
    exact h.1.congr (fun i hi => fW.1 i (by simp; omega)) (fun j hj => fW.2.2.1 j (by simp; omega)) (fun _ => rfl)
  · refine Tp.of (t := 0) (by omega) ?_ rfl (fun i hi => absurd hi (Nat.not_lt_zero _))
    show gI T 8 = nI 0
    rw [fT.I (k := 8) rfl, hX]
    rfl
  · rw [fW.I (k := 30) rfl]
    show gI S 30 = gI T 35
    rw [fT2.I (k := 35) rfl]
    exact h.2.2.1.1
  · show gI T 31 = gI T 40
    rw [h40, fT.I (k := 31) rfl, hX]
    rfl
  · show gI T 32 = iZ (-((6 : Nat) : Int))
    rw [fT.I (k := 32) rfl, hX]
    rfl
  · obtain ⟨r0, r1, r2, r3, r4⟩ := h.2.2.2.1
    unfold Rf tlT
    simp (disch := omega) only [s_II, s_In, s_IJ, s_IA, s_IL, s_IR, s_IC, s_JI, s_JJ, s_Jn, s_JA, s_JL, s_JR, s_JC, s_AI, s_AJ, s_AA, s_An, s_AL, s_AR, s_AC, s_LI, s_LJ, s_LA, s_LL, s_Ln, s_LR, s_LC, t50, t52, u_s, u_n, r0, r1, r2, r3, r4, and_self]
set_option maxHeartbeats 1000000 in
theorem p_lawT {S V V' X T : St} {l e m e' c : Nat} (h : Inv S) (hl : rN (gA S 53) 2 = l) (hl6 : l < 6) (fV : FK S V) (hX : X = lwX V l (cpX V e)) (hx : cpX V e = (cpX V' e')) (fT : FRb (sI X 33 (nI 0)) T) (h40 : gI T 40 = iZ (-((1 : Nat) : Int))) (h41 : gI T 41 = nI 0) (h42 : gI T 42 = nI m) (h43 : gI T 43 = nI c) (he : e' ≤ 398) (hc : c ≤ 400) (hm : m ≤ 12) (hA : Acc m e' c (gA V' 24) T) : ∃ W, f_X12_law_97 T = some (nI l, W) ∧ Inv W := by
  have hcd : Inv (cdS S l (cpX V e)) := h.cd (by omega) _
  have fX : Fr nwI [0] nwA [] (cdS S l (cpX V e)) X := by
    rw [hX]
    exact (((((cd_fr fV l (cpX V e)).mono rfl rfl rfl rfl : Fr nwI [0] nwA [] _ _).sI (k := 31) rfl (iZ (-((1 : Nat) : Int)))).sI (k := 3) rfl _).sI (k := 8) rfl _).sI (k := 32) rfl _
  have fT2 : Fr nwI [0] nwA [] (cdS S l (cpX V e)) T := (fX.sI (k := 33) rfl _).trans (fT.mono rfl rfl rfl rfl)
  have x53 : gA X 53 = gA S 53 := by
    rw [hX]
    exact fV.A (k := 53) rfl
  have t53 : gA T 53 = gA S 53 := (fT.A (k := 53) rfl).trans x53
  have h2 : gA T 53 2 = nI l := by rw [t53, h.1.1.2.2.1.1, hl]
  obtain ⟨W, w1, w2, w3, w4, w5, w6, w7, w8, w9⟩ := m_97 h41 h42 h43 hm hc h2 hl6
  refine ⟨W, w1, ?_⟩
  have fW : Fr nwI [0] nwA [] (cdS S l (cpX V e)) W := fT2.trans (w2.mono rfl rfl rfl rfl)
  have wC : gC W = gC S ++ [cpX V e] := fW.2.2.2.2.2
  have wR : gR W 0 = k_up (gR S 0) l ((gC S).length + 1) := fW.2.2.2.2.1 0
  have w50 : gA W 50 = gA S 50 := by
    rw [w2.A (k := 50) rfl, fT.A (k := 50) rfl, hX]
    exact fV.A (k := 50) rfl
  have w52 : gA W 52 = gA S 52 := by
    rw [w2.A (k := 52) rfl, fT.A (k := 52) rfl, hX]
    exact fV.A (k := 52) rfl
  refine hcd.gen (fW.mono rfl rfl rfl rfl) ?_ ?_ ⟨?_, ?_, ?_⟩ ?_
  · have hne : ∀ i, i < 8 → i ≠ 3 → i ∉ nwI := fun i hi h3 q => by
      simp only [nwI, List.mem_cons, List.not_mem_nil, or_false] at q
      omega
    have hna : ∀ j, j < 15 → j ∉ nwA := fun j hj q => by
      simp only [nwA, List.mem_cons, List.not_mem_nil, or_false] at q
      omega
    refine rv_law (C := gC S) (L := gR S 0) (I := gI S) (A := gA S) (r := gA S 53) h.1 (by omega) (by rw [w5, hl]) (fun i h1 hi => ?_) (fun i hi h3 => fW.1 i (hne i hi h3)) ?_ (fun j hj => fW.2.2.1 j (hna j hj)) (fun q hq hq2 => ?_) ?_
    · rw [w9 i h1 (by omega), t53]
    · rw [hl, w2.I (k := 3) rfl, fT.I (k := 3) rfl, hX]
      rfl
    · rw [wC, wR, k_un (by omega)]
      exact hq2.app _
    · rw [hl, wC, wR, k_us]
      refine ⟨Nat.succ_pos _, (cpX V' e'), ?_, ?_⟩
      · rw [hx, Nat.add_sub_cancel, List.getElem?_append_right (Nat.le_refl _), Nat.sub_self]
        rfl
      · show LawP (2 * e') (va_cpy (gA V' 24) (fun _ => 0) 0 0 (2 * e')) _
        refine Acc.law hA hm (by omega) hc w6 (fun i hi => ?_) (fun p hp => ?_) (fun k hk => cpy0 hk)
        · have := w7 i hi
          rw [Nat.add_assoc] at this
          exact this
        · obtain ⟨q1, q2⟩ := w8 p hp
          rw [show 160 + 900 * l + 98 + 2 * p = 160 + 900 * l + (98 + 2 * p) by omega] at q1
          rw [show 160 + 900 * l + 98 + 2 * p + 1 = 160 + 900 * l + (98 + 2 * p + 1) by omega] at q2
          unfold Fm Fx
          show dR (gA W 53 (160 + 900 * l + (98 + 2 * p))) (gA W 53 (160 + 900 * l + (98 + 2 * p + 1))) = _
          rw [q1, q2]
  · refine Tp.of (t := 0) (by omega) ?_ w4 (fun i hi => absurd hi (Nat.not_lt_zero _))
    rw [w2.I (k := 8) rfl, fT.I (k := 8) rfl, hX]
    rfl
  · rw [fW.I (k := 30) rfl, fW.I (k := 35) rfl]
    exact h.2.2.1.1
  · rw [w2.I (k := 31) rfl, w2.I (k := 40) rfl, h40, fT.I (k := 31) rfl, hX]
    rfl
  · rw [w3, w2.I (k := 32) rfl, fT.I (k := 32) rfl, hX]
    rfl
  · unfold Rf
    rw [w50, w52]
    exact h.2.2.2.1
theorem p_law : Pr f_X11_law f_X12_law := by
  intro S h
  have hw := (Iv.of h).wf
  obtain ⟨n, hn, h8, h36, hb⟩ := h.2.1.n
  have n2 := hw.2.2.1
  have n22 := n2.2
  have i3 : gI S 3 = nI (rN (gA S 53) 2) := h.1.2.1.2.2.2.1.trans n2.1
  by_cases c6 : rN (gA S 53) 2 = 6
  · exact p_law6 h c6
  · obtain ⟨l, hl⟩ : ∃ l, rN (gA S 53) 2 = l := ⟨_, rfl⟩
    have hl6 : l < 6 := by omega
    have r2 : gA S 53 2 = nI l := n2.1.trans (by rw [hl])
    rw [hl] at i3
    have hBt : Bt (rN (gA S 56)) n S := ⟨hn, h8, fun i hi => ⟨(hb i hi).1.trans (hb i hi).2.1, (hb i hi).2.2⟩⟩
    have hMb : ∀ X, gI X 36 = nI n → gA X 56 = gA S 56 → Mb (rN (gA S 56)) n X := fun X x1 x2 => ⟨hn, x1, fun i hi => ⟨by rw [x2]; exact (hb i hi).2.1, (hb i hi).2.2⟩⟩
    have c62 := h.2.2.2.2.2.2.1
    have c63 := h.2.2.2.2.2.2.2.1
    have kv : Kv S := h.2.2.2.2.2.2.2.2.2
    have en : f_X11_law S = (f_X7_read S).bind fun q21 => if q21.1 = 0 then f_X11_law_41 (gI q21.2 15) q21.2 else f_X11_law_41v1 (q21.1 - 1) (-1 : Int32) q21.2 := by
      unfold f_X11_law
      rw [i3, if_neg (show ¬ (6 : Int32) ≤ nI l by rw [show (6 : Int32) = nI 6 from rfl, n_le (by decide) (by omega)]; omega)]
    rcases lw_read hBt (hMb S h36 rfl) c62 c63 with ⟨V, _, _, e, _, r1, he, fV, _⟩ | ⟨V, _, af, r1, fV, h15, _⟩
    · have ek := k_copy (kv.fr fV) he
      have e3 : gI V 3 = nI l := (fV.I rfl).trans i3
      have ec : f_X11_law S = some (nI l, lwX V l (cpX V e)) := by
        rw [en, r1, ek, Option.bind_some, if_neg (show ¬ ((gC V).length + 1, sC V (gC V ++ [cpX V e])).1 = 0 from Nat.succ_ne_zero _)]
        exact e_lawT _ e3 hl6
      obtain ⟨X, hX⟩ : ∃ X, X = lwX V l (cpX V e) := ⟨_, rfl⟩
      have x36 : gI (sI X 33 (nI 0)) 36 = nI n := by
        rw [hX]
        exact (fV.I (k := 36) rfl).trans h36
      have x56 : gA (sI X 33 (nI 0)) 56 = gA S 56 := by
        rw [hX]
        exact fV.A (k := 56) rfl
      have x53 : gA X 53 2 = nI l := by
        rw [hX]
        show gA V 53 2 = nI l
        rw [fV.A (k := 53) rfl]
        exact r2
      have xL : ∀ k, gL (sI X 33 (nI 0)) k = gL S k := fun k => by
        rw [hX]
        exact fV.2.2.2.1 k List.not_mem_nil
      rcases lw_read hBt (hMb _ x36 x56) (by rw [xL]; exact c62) (by rw [xL]; exact c63) with ⟨V', T, m, e', c, q1, q2, q3, q4, q5, q6, q7, q8, q9, z1, z2, z3⟩ | ⟨V', T, af, q1, _⟩
      · have hh := ek.symm.trans (r1.symm.trans (q1.trans (k_copy (kv.fr q3) q2)))
        have hg : gC V ++ [cpX V e] = gC V' ++ [cpX V' e'] := congrArg (fun z : Nat × St => gC z.2) (Option.some.inj hh)
        rw [fV.2.2.2.2.2, q3.2.2.2.2.2] at hg
        have hx := (List.cons.inj (List.append_cancel_left hg)).1
        obtain ⟨W, w1, w2⟩ := p_lawT h hl hl6 fV hX hx q5 q6 q7 q8 q9 q2 z1 z2 z3
        exact ⟨nI l, X, W, by rw [hX]; exact ec, (e_mlaw x53 hl6).trans (q4.trans w1), w2⟩
      · exfalso
        have hh := ek.symm.trans (r1.symm.trans q1)
        exact Nat.succ_ne_zero _ (congrArg Prod.fst (Option.some.inj hh))
    · have ec : f_X11_law S = some (iZ (-((6 : Nat) : Int)), rfT (iZ (-((6 : Nat) : Int))) 4 (sI (sI V 31 (nI af)) 8 (nI 0))) := by
        rw [en, r1, Option.bind_some, if_pos rfl]
        show f_X11_law_41 (gI V 15) V = _
        rw [h15]
        exact e_lawF V af
      obtain ⟨X, hX⟩ : ∃ X, X = rfT (iZ (-((6 : Nat) : Int))) 4 (sI (sI V 31 (nI af)) 8 (nI 0)) := ⟨_, rfl⟩
      have x36 : gI (sI X 33 (nI 0)) 36 = nI n := by
        rw [hX]
        exact (fV.I (k := 36) rfl).trans h36
      have x56 : gA (sI X 33 (nI 0)) 56 = gA S 56 := by
        rw [hX]
        exact fV.A (k := 56) rfl
      have x53 : gA X 53 2 = nI l := by
        rw [hX]
        show gA V 53 2 = nI l
        rw [fV.A (k := 53) rfl]
        exact r2
      have xL : ∀ k, gL (sI X 33 (nI 0)) k = gL S k := fun k => by
        rw [hX]
        exact fV.2.2.2.1 k List.not_mem_nil
      rcases lw_read hBt (hMb _ x36 x56) (by rw [xL]; exact c62) (by rw [xL]; exact c63) with ⟨V', T, m, e', c, q1, q2, q3, _⟩ | ⟨V', T, af', q1, q2, q3, q4, q5, q6, q7⟩
      · exfalso
        have hh := (k_copy (kv.fr q3) q2).symm.trans (q1.symm.trans r1)
        exact Nat.succ_ne_zero _ (congrArg Prod.fst (Option.some.inj hh))
      · have hh : V = V' := congrArg Prod.snd (Option.some.inj (r1.symm.trans q1))
        have ha : nI af' = nI af := by rw [← q3, ← hh, h15]
        obtain ⟨W, w1, w2⟩ := p_lawF h fV hX q5 q6 (q7.trans ha)
        exact ⟨iZ (-((6 : Nat) : Int)), X, W, by rw [hX]; exact ec, (e_mlaw x53 hl6).trans (q4.trans w1), w2⟩
