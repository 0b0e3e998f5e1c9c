/-! part 55: calls that only read a little, or put a number down -/
def vlI : List Nat := [0, 1, 2, 3, 4, 5, 6, 7, 32, 34, 9, 10, 11, 12, 13, 14, 15, 16, 17, 18, 19, 20, 21, 22, 23, 24, 25, 26, 27, 29, 33, 37, 38, 39, 41, 42, 43, 44, 45, 46, 47, 48, 49, 50, 51, 52, 53]
def vlA : List Nat := [1, 3, 4, 5, 6, 7, 9, 10, 11, 12, 13, 14, 50, 52, 53, 18, 19, 20, 21, 22, 24, 26, 27, 28, 30, 31, 38, 40, 42, 43, 45, 57, 58, 59, 60, 61, 66, 67, 68, 69, 70, 71, 72, 73, 74, 75, 76, 77, 78, 79]
abbrev Fvl (S T : St) : Prop := Fr vlI scJ vlA scL S T
theorem Fs.v {S T : St} (f : Fs S T) : Fvl S T := f.mono rfl rfl rfl rfl
theorem vlI_55 {k : Nat} (h : 55 ≤ k) : k ∉ vlI := by
  intro q
  simp only [vlI, List.mem_cons, List.not_mem_nil, or_false] at q
  omega
theorem vlA_81 {k : Nat} (h : 81 ≤ k) : k ∉ vlA := by
  intro q
  simp only [vlA, List.mem_cons, List.not_mem_nil, or_false] at q
  omega
def Rf (S : St) : Prop := gA S 50 0 = gA S 52 1 ∧ gA S 50 1 = gA S 52 2 ∧ gA S 50 2 = gA S 52 3 ∧ gA S 50 3 = gA S 52 5 ∧ gA S 50 4 = gA S 52 6
theorem Im.fv {S T : St} {k : Nat} (h : Im S k) (f : Fvl S T) : Im T k := by
  rcases h with ⟨h1, h2⟩ | ⟨h1, h2, h3⟩
  · exact Or.inl ⟨by rw [f.2.2.2.2.1]; exact h1, by rw [f.A (k := 55) rfl]; exact h2⟩
  · refine Or.inr ⟨by rw [f.2.2.2.2.1]; exact h1, by rw [f.A (k := 55) rfl]; exact h2, ?_⟩
    rw [f.2.2.2.2.2, f.2.2.2.2.1, f.A (k := 54) rfl]
    exact h3.congr (fun i _ => f.1 _ (vlI_55 (by omega))) (fun j _ => f.2.2.1 _ (vlA_81 (by omega))) (fun _ => rfl)
/-- the village has changed, and what was refused -/
theorem Inv.vil {S T : St} (h : Inv S) (f : Fvl S T) (hR : Rv (gI T) (gA T) (gR T 0) (gC T) (gA T 53)) (h32 : gI T 32 = gI T 34) (h50 : Rf T) : Inv T := by
  obtain ⟨h1, ⟨t1, t2, t3⟩, ⟨a1, a2, a3⟩, h4, ⟨p1, p2⟩, ⟨m0, m1⟩, c1, c2, c3, kv⟩ := h
  refine ⟨hR, ⟨?_, ?_, ?_⟩, ⟨?_, ?_, h32⟩, h50, ⟨?_, ?_⟩, ⟨m0.fv f, m1.fv f⟩, ?_, ?_, ?_, kv.fr f⟩
  · rw [f.I (k := 8) rfl, f.I (k := 36) rfl]; exact t1
  · unfold isN rN; rw [f.I (k := 8) rfl]; exact t2
  · unfold rN; rw [f.I (k := 8) rfl, f.A (k := 16) rfl, f.A (k := 56) rfl]; exact t3
  · rw [f.I (k := 30) rfl, f.I (k := 35) rfl]; exact a1
  · rw [f.I (k := 31) rfl, f.I (k := 40) rfl]; exact a2
  · rw [f.I (k := 28) rfl, f.I (k := 54) rfl]; exact p1
  · rw [f.I (k := 28) rfl, f.A (k := 46) rfl, f.A (k := 47) rfl, f.A (k := 80) rfl]; exact p2
  · rw [f.L (k := 62) rfl]; exact c1
  · rw [f.L (k := 63) rfl]; exact c2
  · rw [f.L (k := 37) rfl]; exact c3
/-- a refusal by -k: place a of the class, k of the reference -/
def rfT (v : Int32) (a : Nat) (S : St) : St := sA (sI S 32 v) 50 a (gA S 50 a + 1)
def tlT (v : Int32) (k : Nat) (S : St) : St := sA (sI S 34 v) 52 k (gA S 52 k + 1)
theorem e_ref1 (S : St) : f_X11_refuse (iZ (-((1 : Nat) : Int))) S = some (iZ (-((1 : Nat) : Int)), rfT (iZ (-((1 : Nat) : Int))) 0 S) := rfl
theorem e_ref2 (S : St) : f_X11_refuse (iZ (-((2 : Nat) : Int))) S = some (iZ (-((2 : Nat) : Int)), rfT (iZ (-((2 : Nat) : Int))) 1 S) := rfl
theorem e_ref3 (S : St) : f_X11_refuse (iZ (-((3 : Nat) : Int))) S = some (iZ (-((3 : Nat) : Int)), rfT (iZ (-((3 : Nat) : Int))) 2 S) := rfl
theorem e_ref5 (S : St) : f_X11_refuse (iZ (-((5 : Nat) : Int))) S = some (iZ (-((5 : Nat) : Int)), rfT (iZ (-((5 : Nat) : Int))) 3 S) := rfl
theorem e_ref6 (S : St) : f_X11_refuse (iZ (-((6 : Nat) : Int))) S = some (iZ (-((6 : Nat) : Int)), rfT (iZ (-((6 : Nat) : Int))) 4 S) := rfl
theorem e_tel1 (S : St) : f_X12_tell (iZ (-((1 : Nat) : Int))) S = some (iZ (-((1 : Nat) : Int)), tlT (iZ (-((1 : Nat) : Int))) 1 S) := rfl
theorem e_tel2 (S : St) : f_X12_tell (iZ (-((2 : Nat) : Int))) S = some (iZ (-((2 : Nat) : Int)), tlT (iZ (-((2 : Nat) : Int))) 2 S) := rfl
theorem e_tel3 (S : St) : f_X12_tell (iZ (-((3 : Nat) : Int))) S = some (iZ (-((3 : Nat) : Int)), tlT (iZ (-((3 : Nat) : Int))) 3 S) := rfl
theorem e_tel5 (S : St) : f_X12_tell (iZ (-((5 : Nat) : Int))) S = some (iZ (-((5 : Nat) : Int)), tlT (iZ (-((5 : Nat) : Int))) 5 S) := rfl
theorem e_tel6 (S : St) : f_X12_tell (iZ (-((6 : Nat) : Int))) S = some (iZ (-((6 : Nat) : Int)), tlT (iZ (-((6 : Nat) : Int))) 6 S) := rfl
theorem rfT_m (v : Int32) (a : Nat) (S : St) : gA (rfT v a S) 53 = gA S 53 := rfl
theorem e_done (x : Int32) (S : St) : f_X11_done x S = some (x, sI S 32 (nI 0)) := rfl
theorem e_telN {n : Nat} (h : n < 2147483648) (S : St) : f_X12_tell (nI n) S = some (nI n, sI S 34 (nI 0)) := by
  unfold f_X12_tell f_X12_tell_10 f_X12_tell_28
  simp (disch := omega) only [k_let, Option.bind_some, ↓reduceIte, eq_self, true_or, or_true, n01_0, n01_1, kb_or, kb_0T, kb_0F, vn_0, vn_1, vn_k, nl_0, nl_1, nl_2, nl_3, nl_4, nl_5, nl_6, nl_7, nl_8, nl_9, nl_10, nl_11, nl_12, nl_13, nl_14, nl_15, nl_16, nl_20, nl_21, nl_22, nl_23, nl_24, nl_25, nl_26, nl_27, nl_28, nl_29, nl_30, nl_31, nl_32, nl_40, nl_41, nl_42, nl_43, nl_45, nl_47, nl_48, nl_50, nl_57, nl_59, nl_60, nl_61, nl_62, nl_63, nl_64, nl_91, nl_93, nl_94, nl_97, nl_98, nl_100, nl_110, nl_122, nl_130, nl_144, nl_160, nl_240, nl_241, nl_255, nl_256, nl_400, nl_800, nl_900, nl_999, nl_1000, nl_1001, nl_1024, nl_1103, nl_1928, nl_4321, nl_5560, nl_12345, nl_1000000, nl_1000003, nl_252645135, nl_858993459, nl_1431655765, nl_1000000000, nI_add, pk_mul, n_sub, n_neg, n_cl, leT, leF, ltT, ltF, eqT, eqF, kbT, s_II, s_In, s_IJ, s_IA, s_IL, s_IR, s_IC, s_JI, s_JJ, s_Jn, s_JA, s_JL, s_JR, s_JC, s_AI, s_AJ, s_AA, s_An, s_AL, s_AR, s_AC, s_LI, s_LJ, s_LA, s_LL, s_Ln, s_LR, s_LC]
theorem Inv.refuse {S : St} (h : Inv S) (v : Int32) (a k : Nat) (hk : (a, k) ∈ [(0, 1), (1, 2), (2, 3), (3, 5), (4, 6)]) : Inv (tlT v k (sI (rfT v a S) 33 (nI 0))) := by
  have f : Fvl S (tlT v k (sI (rfT v a S) 33 (nI 0))) := (((((Fr.refl S).sI (k := 32) rfl v).sA (k := 50) rfl a _).sI (k := 33) rfl _).sI (k := 34) rfl v).sA (k := 52) rfl k _
  refine h.vil f ?_ rfl ?_
  · exact Rv.congr h.1 (fun i hi => by
      show gI (sI (sI (sI S 32 v) 33 _) 34 v) i = gI S i
      rw [s_In (by omega), s_In (by omega), s_In (by omega)]) (fun j hj => by
      show gA (tlT v k (sI (rfT v a S) 33 (nI 0))) j = gA S j
      unfold tlT rfT
      rw [s_An (by omega), s_IA, s_IA, s_An (by omega), s_IA]) (fun _ => rfl)
  · obtain ⟨r0, r1, r2, r3, r4⟩ := h.2.2.2.1
    unfold Rf tlT rfT
    simp only [List.mem_cons, List.not_mem_nil, or_false, Prod.mk.injEq] at hk
    rcases hk with ⟨rfl, rfl⟩ | ⟨rfl, rfl⟩ | ⟨rfl, rfl⟩ | ⟨rfl, rfl⟩ | ⟨rfl, rfl⟩ <;>
      simp (disch := omega) only [s_II, s_In, s_IJ, s_IA, s_IL, s_IR, s_IC, s_JI, s_JJ, s_Jn, s_JA, s_JL, s_JR, s_JC, s_AI, s_AJ, s_AA, s_An, s_AL, s_AR, s_AC, s_LI, s_LJ, s_LA, s_LL, s_Ln, s_LR, s_LC, u_s, u_n, r0, r1, r2, r3, r4, and_self]
/-- a call of the class and the same call of the reference behind it -/
def Pr (f g : St → Option (Int32 × St)) : Prop := ∀ S, Inv S → ∃ a S1 S2, f S = some (a, S1) ∧ g S1 = some (a, S2) ∧ Inv S2
theorem Iv.sI {r : Nat → Int32} {S : St} (h : Iv r S) {k : Nat} (hk : scI.contains k = true) (v : Int32) : Iv r (sI S k v) := h.fs ((Fr.refl S).sI hk v)
theorem p_sung : Pr f_X11_sung f_X12_sung := fun S h => ⟨_, _, _, rfl, congrArg (fun v => some (v, _)) h.2.2.1.1.symm, (Iv.of h |>.sI (k := 33) rfl _).1⟩
theorem p_fault : Pr f_X11_fault f_X12_fault := fun S h => ⟨_, _, _, rfl, congrArg (fun v => some (v, _)) h.2.2.1.2.1.symm, (Iv.of h |>.sI (k := 33) rfl _).1⟩
theorem p_status : Pr f_X11_status f_X12_status := fun S h => ⟨_, _, _, rfl, congrArg (fun v => some (v, _)) h.2.2.1.2.2.symm, (Iv.of h |>.sI (k := 33) rfl _).1⟩
theorem rng_n {x : Int32} {n : Nat} (h : 0 ≤ x.toInt ∧ x.toInt < n) : ∃ t, x = nI t ∧ t < n ∧ t < 2147483648 := by
  obtain ⟨e, b, c⟩ := n_of h.1
  exact ⟨_, e, by omega, b⟩
theorem p_length (x : Int32) : Pr (f_X11_length x) (f_X12_length x) := by
  intro S h
  have hv := Iv.of h
  generalize gA S 53 = r at hv
  have hv2 := hv.sI (k := 33) rfl (nI 0)
  have := hv.wf.t6
  unfold f_X11_length f_X11_length_24 f_X12_length f_X12_length_26
  rw [e_hasTune hv.c x]
  by_cases c : 0 ≤ x.toInt ∧ x.toInt < rN r 0
  · obtain ⟨t, rfl, ht, -⟩ := rng_n c
    refine ⟨nI (rN r (8 + t)), S, sI S 33 (nI 0), ?_, ?_, hv2.1⟩
    · simp (disch := omega) only [k_let, Option.bind_some, ↓reduceIte, eq_self, true_or, or_true, n01_0, n01_1, kb_or, kb_0T, kb_0F, vn_0, vn_1, vn_k, nl_0, nl_1, nl_2, nl_3, nl_4, nl_5, nl_6, nl_7, nl_8, nl_9, nl_10, nl_11, nl_12, nl_13, nl_14, nl_15, nl_16, nl_20, nl_21, nl_22, nl_23, nl_24, nl_25, nl_26, nl_27, nl_28, nl_29, nl_30, nl_31, nl_32, nl_40, nl_41, nl_42, nl_43, nl_45, nl_47, nl_48, nl_50, nl_57, nl_59, nl_60, nl_61, nl_62, nl_63, nl_64, nl_91, nl_93, nl_94, nl_97, nl_98, nl_100, nl_110, nl_122, nl_130, nl_144, nl_160, nl_240, nl_241, nl_255, nl_256, nl_400, nl_800, nl_900, nl_999, nl_1000, nl_1001, nl_1024, nl_1103, nl_1928, nl_4321, nl_5560, nl_12345, nl_1000000, nl_1000003, nl_252645135, nl_858993459, nl_1431655765, nl_1000000000, nI_add, pk_mul, n_sub, n_neg, n_cl, leT, leF, ltT, ltF, eqT, eqF, kbT, s_II, s_In, s_IJ, s_IA, s_IL, s_IR, s_IC, s_JI, s_JJ, s_Jn, s_JA, s_JL, s_JR, s_JC, s_AI, s_AJ, s_AA, s_An, s_AL, s_AR, s_AC, s_LI, s_LJ, s_LA, s_LL, s_Ln, s_LR, s_LC, c, and_self, decide_true, hv.c.C1]
    · simp (disch := omega) only [k_let, Option.bind_some, ↓reduceIte, eq_self, true_or, or_true, n01_0, n01_1, kb_or, kb_0T, kb_0F, vn_0, vn_1, vn_k, nl_0, nl_1, nl_2, nl_3, nl_4, nl_5, nl_6, nl_7, nl_8, nl_9, nl_10, nl_11, nl_12, nl_13, nl_14, nl_15, nl_16, nl_20, nl_21, nl_22, nl_23, nl_24, nl_25, nl_26, nl_27, nl_28, nl_29, nl_30, nl_31, nl_32, nl_40, nl_41, nl_42, nl_43, nl_45, nl_47, nl_48, nl_50, nl_57, nl_59, nl_60, nl_61, nl_62, nl_63, nl_64, nl_91, nl_93, nl_94, nl_97, nl_98, nl_100, nl_110, nl_122, nl_130, nl_144, nl_160, nl_240, nl_241, nl_255, nl_256, nl_400, nl_800, nl_900, nl_999, nl_1000, nl_1001, nl_1024, nl_1103, nl_1928, nl_4321, nl_5560, nl_12345, nl_1000000, nl_1000003, nl_252645135, nl_858993459, nl_1431655765, nl_1000000000, nI_add, pk_mul, n_sub, n_neg, n_cl, leT, leF, ltT, ltF, eqT, eqF, kbT, s_II, s_In, s_IJ, s_IA, s_IL, s_IR, s_IC, s_JI, s_JJ, s_Jn, s_JA, s_JL, s_JR, s_JC, s_AI, s_AJ, s_AA, s_An, s_AL, s_AR, s_AC, s_LI, s_LJ, s_LA, s_LL, s_Ln, s_LR, s_LC, e_m_isTune hv2.r, c, and_self, decide_true, hv2.r.m, (hv.wf.2.2.2.2.2.2.2.2.1 t ht).1.1]
  · refine ⟨iZ (-((1 : Nat) : Int)), S, sI S 33 (nI 0), ?_, ?_, hv2.1⟩
    · simp only [k_let, Option.bind_some, ↓reduceIte, eq_self, true_or, or_true, n01_0, n01_1, kb_or, kb_0T, kb_0F, vn_0, vn_1, vn_k, nl_0, nl_1, nl_2, nl_3, nl_4, nl_5, nl_6, nl_7, nl_8, nl_9, nl_10, nl_11, nl_12, nl_13, nl_14, nl_15, nl_16, nl_20, nl_21, nl_22, nl_23, nl_24, nl_25, nl_26, nl_27, nl_28, nl_29, nl_30, nl_31, nl_32, nl_40, nl_41, nl_42, nl_43, nl_45, nl_47, nl_48, nl_50, nl_57, nl_59, nl_60, nl_61, nl_62, nl_63, nl_64, nl_91, nl_93, nl_94, nl_97, nl_98, nl_100, nl_110, nl_122, nl_130, nl_144, nl_160, nl_240, nl_241, nl_255, nl_256, nl_400, nl_800, nl_900, nl_999, nl_1000, nl_1001, nl_1024, nl_1103, nl_1928, nl_4321, nl_5560, nl_12345, nl_1000000, nl_1000003, nl_252645135, nl_858993459, nl_1431655765, nl_1000000000, n_neg, decide_eq_false c]
    · simp only [k_let, Option.bind_some, ↓reduceIte, eq_self, true_or, or_true, n01_0, n01_1, kb_or, kb_0T, kb_0F, vn_0, vn_1, vn_k, nl_0, nl_1, nl_2, nl_3, nl_4, nl_5, nl_6, nl_7, nl_8, nl_9, nl_10, nl_11, nl_12, nl_13, nl_14, nl_15, nl_16, nl_20, nl_21, nl_22, nl_23, nl_24, nl_25, nl_26, nl_27, nl_28, nl_29, nl_30, nl_31, nl_32, nl_40, nl_41, nl_42, nl_43, nl_45, nl_47, nl_48, nl_50, nl_57, nl_59, nl_60, nl_61, nl_62, nl_63, nl_64, nl_91, nl_93, nl_94, nl_97, nl_98, nl_100, nl_110, nl_122, nl_130, nl_144, nl_160, nl_240, nl_241, nl_255, nl_256, nl_400, nl_800, nl_900, nl_999, nl_1000, nl_1001, nl_1024, nl_1103, nl_1928, nl_4321, nl_5560, nl_12345, nl_1000000, nl_1000003, nl_252645135, nl_858993459, nl_1431655765, nl_1000000000, n_neg, e_m_isTune hv2.r, decide_eq_false c]
