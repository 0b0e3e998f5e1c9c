/-! part do: a whole text, both sides -/
noncomputable def mrd (U : St) : Option (Int32 × St) := (f_X12_begin U).bind fun q29 => k_let (sI q29 42 (0 : Int32)) fun S3 => k_let (sI S3 43 (0 : Int32)) fun S4 => k_let (sI S4 44 (0 : Int32)) fun S5 => (f_X12_readClause S5).bind fun q48 => f_X12_law_51 FU q48
def RdOk (S U : St) : Prop := ∃ V T m e c, f_X7_read S = f_J7_copyOf (nI (2 * e)) V ∧ e ≤ 398 ∧ FK S V ∧ mrd U = f_X12_law_97 T ∧ FRb U T ∧ gI T 40 = iZ (-((1 : Nat) : Int)) ∧ gI T 41 = nI 0 ∧ gI T 42 = nI m ∧ gI T 43 = nI c ∧ c ≤ 400 ∧ m ≤ 12 ∧ Acc m e c (gA V 24) T
theorem lw_read {t : Nat → Nat} {n : Nat} {S U : St} (hb : Bt t n S) (hM : Mb t n U) (h62 : ∀ i, i < 7 → gL U 62 i = lZ (wdL.getD i 0)) (h63 : ∀ i, i < 3 → gL U 63 i = lZ (hdL.getD i 0)) : RdOk S U ∨ LwNo (f_X7_read S) (mrd U) S U := by
  have F1 : 1000 < FU := FU_ge (by decide)
  have hn := hb.1
  have f1 : Fr [10, 11, 12, 16] [] [] [] S (sI (sI (sI (sI S 10 (nI 0)) 11 (nI 0)) 12 (nI 0)) 16 (nI 0)) := ((((Fr.refl S).sI rfl _).sI rfl _).sI rfl _).sI rfl _
  obtain ⟨S1, a1, a2, a3⟩ := e_step (hb.fr f1 rfl rfl) (Nat.zero_le n) (s_II _ _ _)
  have f2 : Fr [38, 40, 41] [] [] [] U (sI (sI (sI U 38 (nI 0)) 41 (nI 0)) 40 (iZ (-((1 : Nat) : Int)))) := (((Fr.refl U).sI rfl _).sI rfl _).sI rfl _
  obtain ⟨T1, b1, b2, b3⟩ := e_next (p := 0) (hM.fr f2 rfl rfl) (Nat.zero_le n) rfl
  generalize sk t (n - 0) 0 = a at a3 b3
  have f3 : Fr [42, 43, 44] [] [] [] T1 (sI (sI (sI T1 42 (nI 0)) 43 (nI 0)) 44 (nI 0)) := (((Fr.refl T1).sI rfl _).sI rfl _).sI rfl _
  have cs : Cs t n a 0 0 S1 := ⟨a3, (a2.I rfl).trans rfl, (a2.I rfl).trans rfl, Nat.zero_le _, Nat.zero_le _⟩
  have mc : Mc t n a 0 0 0 (sI (sI (sI T1 42 (nI 0)) 43 (nI 0)) 44 (nI 0)) := ⟨b3.fr f3 rfl rfl rfl rfl rfl rfl, (f3.I rfl).trans ((b2.I rfl).trans rfl), rfl, rfl, rfl, Nat.zero_le _, fun i hi => by rw [f3.L rfl, b2.L rfl]; exact h62 i hi, fun i hi => by rw [f3.L rfl, b2.L rfl]; exact h63 i hi⟩
  have e1 : f_X7_read S = (f_X7_readClause S1).bind fun q25 => f_X7_read_31 FU q25.1 (nI 0) q25.2 := by
    unfold f_X7_read
    simp (disch := omega) only [k_let, Option.bind_some, ↓reduceIte, eq_self, true_or, or_true, n01_0, n01_1, kb_or, kb_0T, kb_0F, vn_0, vn_1, vn_k, nl_0, nl_1, nl_2, nl_3, nl_4, nl_5, nl_6, nl_7, nl_8, nl_9, nl_10, nl_11, nl_12, nl_13, nl_14, nl_15, nl_16, nl_20, nl_21, nl_22, nl_23, nl_24, nl_25, nl_26, nl_27, nl_28, nl_29, nl_30, nl_31, nl_32, nl_40, nl_41, nl_42, nl_43, nl_45, nl_47, nl_48, nl_50, nl_57, nl_59, nl_60, nl_61, nl_62, nl_63, nl_64, nl_91, nl_93, nl_94, nl_97, nl_98, nl_100, nl_110, nl_122, nl_130, nl_144, nl_160, nl_240, nl_241, nl_255, nl_256, nl_400, nl_800, nl_900, nl_999, nl_1000, nl_1001, nl_1024, nl_1103, nl_1928, nl_4321, nl_5560, nl_12345, nl_1000000, nl_1000003, nl_252645135, nl_858993459, nl_1431655765, nl_1000000000, nI_add, pk_mul, n_sub, n_neg, n_cl, leT, leF, ltT, ltF, eqT, eqF, kbT, s_II, s_In, s_IJ, s_IA, s_IL, s_IR, s_IC, s_JI, s_JJ, s_Jn, s_JA, s_JL, s_JR, s_JC, s_AI, s_AJ, s_AA, s_An, s_AL, s_AR, s_AC, s_LI, s_LJ, s_LA, s_LL, s_Ln, s_LR, s_LC, a1]
  have e2 : mrd U = (f_X12_readClause (sI (sI (sI T1 42 (nI 0)) 43 (nI 0)) 44 (nI 0))).bind fun q48 => f_X12_law_51 FU q48 := by
    unfold mrd f_X12_begin
    simp (disch := omega) only [k_let, Option.bind_some, ↓reduceIte, eq_self, true_or, or_true, n01_0, n01_1, kb_or, kb_0T, kb_0F, vn_0, vn_1, vn_k, nl_0, nl_1, nl_2, nl_3, nl_4, nl_5, nl_6, nl_7, nl_8, nl_9, nl_10, nl_11, nl_12, nl_13, nl_14, nl_15, nl_16, nl_20, nl_21, nl_22, nl_23, nl_24, nl_25, nl_26, nl_27, nl_28, nl_29, nl_30, nl_31, nl_32, nl_40, nl_41, nl_42, nl_43, nl_45, nl_47, nl_48, nl_50, nl_57, nl_59, nl_60, nl_61, nl_62, nl_63, nl_64, nl_91, nl_93, nl_94, nl_97, nl_98, nl_100, nl_110, nl_122, nl_130, nl_144, nl_160, nl_240, nl_241, nl_255, nl_256, nl_400, nl_800, nl_900, nl_999, nl_1000, nl_1001, nl_1024, nl_1103, nl_1928, nl_4321, nl_5560, nl_12345, nl_1000000, nl_1000003, nl_252645135, nl_858993459, nl_1431655765, nl_1000000000, nI_add, pk_mul, n_sub, n_neg, n_cl, leT, leF, ltT, ltF, eqT, eqF, kbT, s_II, s_In, s_IJ, s_IA, s_IL, s_IR, s_IC, s_JI, s_JJ, s_Jn, s_JA, s_JL, s_JR, s_JC, s_AI, s_AJ, s_AA, s_An, s_AL, s_AR, s_AC, s_LI, s_LJ, s_LA, s_LL, s_Ln, s_LR, s_LC, b1]
  have fS : FK S S1 := (f1.mono rfl rfl rfl rfl : FK S _).trans (a2.mono rfl rfl rfl rfl)
  have fU : FRb U (sI (sI (sI T1 42 (nI 0)) 43 (nI 0)) 44 (nI 0)) := ((f2.mono rfl rfl rfl rfl : FRb U _).trans (b2.mono rfl rfl rfl rfl)).trans (f3.mono rfl rfl rfl rfl)
  have h40 : gI (sI (sI (sI T1 42 (nI 0)) 43 (nI 0)) 44 (nI 0)) 40 = iZ (-((1 : Nat) : Int)) := (f3.I rfl).trans ((b2.I rfl).trans rfl)
  generalize sI (sI (sI T1 42 (nI 0)) 43 (nI 0)) 44 (nI 0) = U2 at mc e2 fU h40
  rcases cl_both cs ((a2.I rfl).trans rfl) (by omega) (Nat.zero_le _) mc with ⟨V, a4, e4, q4, T, c4, kd4, ds, dt, r1, r2, r3, r4, r5, r6, ⟨r7, r8, r9⟩, y1, y2, y3, y4, y5, y6, y7, y8, y9⟩ | ⟨V, T, af, r1, r2, r3, r4, r5, r6, r7⟩
  · have hA : Acc (0 + 1) e4 c4 (gA V 24) T := (Acc.zero (gA S1 24) U2).add y3 y9 y1 y2 (fun i hi => absurd hi (by omega)) (fun p hp => absurd hp (by omega)) (fun i hi => absurd hi (by omega)) r9
    have e3 : f_X7_read S = f_X7_read_31 FU (nI 1) (nI (1 - 1)) V := by
      rw [e1, r1]
      rfl
    have e4' : mrd U = f_X12_law_51 FU T := by
      rw [e2, y4]
      rfl
    rcases lw_loop (S0 := S) (U0 := U2) (n - a4) FU FU 1 a4 e4 q4 c4 V T (Nat.le_refl _) (by omega) (by omega) r2 r3 (by omega) (by omega) (by omega) y5 hA (fS.trans r5) y6 with ⟨V3, T3, m3, e5, c5, z1, z2, z3, z4, z5, z6, z7, z8, z9, x1, x2⟩ | ⟨V3, T3, af, z1, z2, z3, z4, z5, z6, z7⟩
    · left
      exact ⟨V3, T3, m3, e5, c5, e3.trans z1, z2, z3, e4'.trans z4, fU.trans (z5.mono rfl rfl rfl rfl), (z5.I rfl).trans h40, z6, z7, z8, z9, x1, x2⟩
    · right
      exact ⟨V3, T3, af, e3.trans z1, z2, z3, e4'.trans z4, fU.trans z5, z6, z7⟩
  · right
    refine ⟨V, T, af, ?_, fS.trans r2, r3, ?_, fU.trans r5, r6, r7⟩
    · rw [e1, r1, Option.bind_some]
      exact rd_0 (by omega) _ _
    · rw [e2, r4, Option.bind_some]
      exact lw_0 (by omega) r6
