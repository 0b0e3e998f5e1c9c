theorem q_1269 : k_in (.methodLink RX10 67 arraycopyName) := ⟨List.mem_of_getElem? (i := 1269) (by decide +kernel), by decide +kernel⟩
theorem q_1274 : k_in (.methodLink RX1 31 arraycopyName) := ⟨List.mem_of_getElem? (i := 1274) (by decide +kernel), by decide +kernel⟩
theorem k_sF_1 (D : k_D) (dy : Nat → Nat) (S : St) (f : Nat → Int32) : k_cell D dy (sF S 1 f) 1 = some (.inl (D.2.1 0, 6, .inl f)) ∧ ∀ j, j ≠ 1 → k_cell D dy (sF S 1 f) j = k_cell D dy S j := k_cset (by decide) rfl rfl
theorem k_sF_3 (D : k_D) (dy : Nat → Nat) (S : St) (f : Nat → Int32) : k_cell D dy (sF S 3 f) 3 = some (.inl (D.2.1 0, 16, .inl f)) ∧ ∀ j, j ≠ 3 → k_cell D dy (sF S 3 f) j = k_cell D dy S j := k_cset (by decide) rfl rfl
theorem k_sF_4 (D : k_D) (dy : Nat → Nat) (S : St) (f : Nat → Int32) : k_cell D dy (sF S 4 f) 4 = some (.inl (D.2.1 0, 16, .inl f)) ∧ ∀ j, j ≠ 4 → k_cell D dy (sF S 4 f) j = k_cell D dy S j := k_cset (by decide) rfl rfl
theorem k_sF_5 (D : k_D) (dy : Nat → Nat) (S : St) (f : Nat → Int32) : k_cell D dy (sF S 5 f) 5 = some (.inl (D.2.1 0, 16, .inl f)) ∧ ∀ j, j ≠ 5 → k_cell D dy (sF S 5 f) j = k_cell D dy S j := k_cset (by decide) rfl rfl
theorem k_sF_6 (D : k_D) (dy : Nat → Nat) (S : St) (f : Nat → Int32) : k_cell D dy (sF S 6 f) 6 = some (.inl (D.2.1 0, 16, .inl f)) ∧ ∀ j, j ≠ 6 → k_cell D dy (sF S 6 f) j = k_cell D dy S j := k_cset (by decide) rfl rfl
theorem k_sF_7 (D : k_D) (dy : Nat → Nat) (S : St) (f : Nat → Int32) : k_cell D dy (sF S 7 f) 7 = some (.inl (D.2.1 0, 16, .inl f)) ∧ ∀ j, j ≠ 7 → k_cell D dy (sF S 7 f) j = k_cell D dy S j := k_cset (by decide) rfl rfl
theorem k_sF_9 (D : k_D) (dy : Nat → Nat) (S : St) (f : Nat → Int32) : k_cell D dy (sF S 9 f) 9 = some (.inl (D.2.1 0, 8, .inl f)) ∧ ∀ j, j ≠ 9 → k_cell D dy (sF S 9 f) j = k_cell D dy S j := k_cset (by decide) rfl rfl
theorem k_sF_10 (D : k_D) (dy : Nat → Nat) (S : St) (f : Nat → Int32) : k_cell D dy (sF S 10 f) 10 = some (.inl (D.2.1 0, 8, .inl f)) ∧ ∀ j, j ≠ 10 → k_cell D dy (sF S 10 f) j = k_cell D dy S j := k_cset (by decide) rfl rfl
theorem k_sF_11 (D : k_D) (dy : Nat → Nat) (S : St) (f : Nat → Int32) : k_cell D dy (sF S 11 f) 11 = some (.inl (D.2.1 0, 10, .inl f)) ∧ ∀ j, j ≠ 11 → k_cell D dy (sF S 11 f) j = k_cell D dy S j := k_cset (by decide) rfl rfl
theorem k_sF_12 (D : k_D) (dy : Nat → Nat) (S : St) (f : Nat → Int32) : k_cell D dy (sF S 12 f) 12 = some (.inl (D.2.1 0, 10, .inl f)) ∧ ∀ j, j ≠ 12 → k_cell D dy (sF S 12 f) j = k_cell D dy S j := k_cset (by decide) rfl rfl
theorem k_sF_13 (D : k_D) (dy : Nat → Nat) (S : St) (f : Nat → Int32) : k_cell D dy (sF S 13 f) 13 = some (.inl (D.2.1 0, 12, .inl f)) ∧ ∀ j, j ≠ 13 → k_cell D dy (sF S 13 f) j = k_cell D dy S j := k_cset (by decide) rfl rfl
theorem k_sF_14 (D : k_D) (dy : Nat → Nat) (S : St) (f : Nat → Int32) : k_cell D dy (sF S 14 f) 14 = some (.inl (D.2.1 0, 12, .inl f)) ∧ ∀ j, j ≠ 14 → k_cell D dy (sF S 14 f) j = k_cell D dy S j := k_cset (by decide) rfl rfl
noncomputable def f_X1_become_o83_a2 (S : St) : Option (St) := if ¬ gR S 3 0 = 0 then if ¬ gR S 3 0 = 0 then k_let (sF S 84 (va_cpy (gA S 3) (gA S 84) 0 0 16)) fun S3 => if ¬ gR S3 3 0 = 0 then if ¬ gR S3 3 0 = 0 then k_let (sF S3 85 (va_cpy (gA S3 4) (gA S3 85) 0 0 16)) fun S6 => if ¬ gR S6 3 0 = 0 then if ¬ gR S6 3 0 = 0 then k_let (sF S6 86 (va_cpy (gA S6 5) (gA S6 86) 0 0 16)) fun S9 => if ¬ gR S9 3 0 = 0 then if ¬ gR S9 3 0 = 0 then k_let (sF S9 87 (va_cpy (gA S9 6) (gA S9 87) 0 0 16)) fun S12 => if ¬ gR S12 3 0 = 0 then if ¬ gR S12 3 0 = 0 then k_let (sF S12 88 (va_cpy (gA S12 7) (gA S12 88) 0 0 16)) fun S15 => if ¬ gR S15 3 0 = 0 then k_let (sI S15 56 (gI S15 1)) fun S17 => some S17 else none else none else none else none else none else none else none else none else none else none else none
set_option maxRecDepth 100000 in
set_option maxHeartbeats 4000000 in
theorem w_X1_become_o83_a2_0 {D : k_D} {dy : Nat → Nat} (S : St) (out : St) (h : f_X1_become_o83_a2 S = some out) : Rn yX1_become cX1_become 2 none (k_rm 1) 0 0 D dy S (k_Pv dy out) 0 [(0, .ref (dy 2)), (1, .ref (D.2.2 2))] [] := by
    unfold f_X1_become_o83_a2 at h
    refine r_aload_n 1 dX1_become_0 rfl rfl ?_
    refine gf_2_0 q_182 dX1_become_1 ?_
    refine r_iconst (v := 0) dX1_become_4 rfl ?_
    refine r_aload_n 0 dX1_become_5 rfl rfl ?_
    obtain ⟨c1, h⟩ := g_ite h
    refine gf_83_0 c1 q_182 dX1_become_6 ?_
    refine r_iconst (v := 0) dX1_become_9 rfl ?_
    refine r_bipush (v := 16) dX1_become_10 rfl ?_
    obtain ⟨c2, h⟩ := g_ite h
    have hE0 := c2
    refine r_copy (S' := sF S 84 (va_cpy (gA S 3) (gA S 84) 0 0 16)) 3 84 (ce_3 D dy _) (ce_84 D dy _ hE0) rfl rfl (k_sF_84 D dy _ _ hE0).1 (k_sF_84 D dy _ _ hE0).2 (by decide) (by decide) (by decide) (by decide) (by decide) q_1274 q_957 q_956 q_160 ⟨Nat.le_of_ble_eq_true rfl, by decide +kernel⟩ dX1_become_12 ?_
    generalize sF S 84 (va_cpy (gA S 3) (gA S 84) 0 0 16) = S3 at h ⊢
    replace h := g_let h
    refine r_aload_n 1 dX1_become_15 rfl rfl ?_
    refine gf_2_1 q_188 dX1_become_16 ?_
    refine r_iconst (v := 0) dX1_become_19 rfl ?_
    refine r_aload_n 0 dX1_become_20 rfl rfl ?_
    obtain ⟨c4, h⟩ := g_ite h
    refine gf_83_1 c4 q_188 dX1_become_21 ?_
    refine r_iconst (v := 0) dX1_become_24 rfl ?_
    refine r_bipush (v := 16) dX1_become_25 rfl ?_
    obtain ⟨c5, h⟩ := g_ite h
    have hE0 := c5
    refine r_copy (S' := sF S3 85 (va_cpy (gA S3 4) (gA S3 85) 0 0 16)) 4 85 (ce_4 D dy _) (ce_85 D dy _ hE0) rfl rfl (k_sF_85 D dy _ _ hE0).1 (k_sF_85 D dy _ _ hE0).2 (by decide) (by decide) (by decide) (by decide) (by decide) q_1274 q_957 q_956 q_160 ⟨Nat.le_of_ble_eq_true rfl, by decide +kernel⟩ dX1_become_27 ?_
    generalize sF S3 85 (va_cpy (gA S3 4) (gA S3 85) 0 0 16) = S6 at h ⊢
    replace h := g_let h
    refine r_aload_n 1 dX1_become_30 rfl rfl ?_
    refine gf_2_2 q_195 dX1_become_31 ?_
    refine r_iconst (v := 0) dX1_become_34 rfl ?_
    refine r_aload_n 0 dX1_become_35 rfl rfl ?_
    obtain ⟨c7, h⟩ := g_ite h
    refine gf_83_2 c7 q_195 dX1_become_36 ?_
    refine r_iconst (v := 0) dX1_become_39 rfl ?_
    refine r_bipush (v := 16) dX1_become_40 rfl ?_
    obtain ⟨c8, h⟩ := g_ite h
    have hE0 := c8
    refine r_copy (S' := sF S6 86 (va_cpy (gA S6 5) (gA S6 86) 0 0 16)) 5 86 (ce_5 D dy _) (ce_86 D dy _ hE0) rfl rfl (k_sF_86 D dy _ _ hE0).1 (k_sF_86 D dy _ _ hE0).2 (by decide) (by decide) (by decide) (by decide) (by decide) q_1274 q_957 q_956 q_160 ⟨Nat.le_of_ble_eq_true rfl, by decide +kernel⟩ dX1_become_42 ?_
    generalize sF S6 86 (va_cpy (gA S6 5) (gA S6 86) 0 0 16) = S9 at h ⊢
    replace h := g_let h
    refine r_aload_n 1 dX1_become_45 rfl rfl ?_
    refine gf_2_3 q_201 dX1_become_46 ?_
    refine r_iconst (v := 0) dX1_become_49 rfl ?_
    refine r_aload_n 0 dX1_become_50 rfl rfl ?_
    obtain ⟨c10, h⟩ := g_ite h
    refine gf_83_3 c10 q_201 dX1_become_51 ?_
    refine r_iconst (v := 0) dX1_become_54 rfl ?_
    refine r_bipush (v := 16) dX1_become_55 rfl ?_
    obtain ⟨c11, h⟩ := g_ite h
    have hE0 := c11
    refine r_copy (S' := sF S9 87 (va_cpy (gA S9 6) (gA S9 87) 0 0 16)) 6 87 (ce_6 D dy _) (ce_87 D dy _ hE0) rfl rfl (k_sF_87 D dy _ _ hE0).1 (k_sF_87 D dy _ _ hE0).2 (by decide) (by decide) (by decide) (by decide) (by decide) q_1274 q_957 q_956 q_160 ⟨Nat.le_of_ble_eq_true rfl, by decide +kernel⟩ dX1_become_57 ?_
    generalize sF S9 87 (va_cpy (gA S9 6) (gA S9 87) 0 0 16) = S12 at h ⊢
    replace h := g_let h
    refine r_aload_n 1 dX1_become_60 rfl rfl ?_
    refine gf_2_4 q_209 dX1_become_61 ?_
    refine r_iconst (v := 0) dX1_become_64 rfl ?_
    refine r_aload_n 0 dX1_become_65 rfl rfl ?_
    obtain ⟨c13, h⟩ := g_ite h
    refine gf_83_4 c13 q_209 dX1_become_66 ?_
    refine r_iconst (v := 0) dX1_become_69 rfl ?_
    refine r_bipush (v := 16) dX1_become_70 rfl ?_
    obtain ⟨c14, h⟩ := g_ite h
    have hE0 := c14
    refine r_copy (S' := sF S12 88 (va_cpy (gA S12 7) (gA S12 88) 0 0 16)) 7 88 (ce_7 D dy _) (ce_88 D dy _ hE0) rfl rfl (k_sF_88 D dy _ _ hE0).1 (k_sF_88 D dy _ _ hE0).2 (by decide) (by decide) (by decide) (by decide) (by decide) q_1274 q_957 q_956 q_160 ⟨Nat.le_of_ble_eq_true rfl, by decide +kernel⟩ dX1_become_72 ?_
    generalize sF S12 88 (va_cpy (gA S12 7) (gA S12 88) 0 0 16) = S15 at h ⊢
    replace h := g_let h
    refine r_aload_n 0 dX1_become_75 rfl rfl ?_
    refine r_aload_n 1 dX1_become_76 rfl rfl ?_
    refine gf_2_5 q_211 dX1_become_77 ?_
    obtain ⟨c16, h⟩ := g_ite h
    refine pf_83_5 c16 q_211 dX1_become_80 ?_
    generalize sI S15 56 (gI S15 1) = S17 at h ⊢
    replace h := g_let h
    exact r_vret rfl dX1_become_83 ⟨rfl, rfl, Option.some.inj h⟩
theorem ok_X1_become_o83_a2 {D : k_D} {dy : Nat → Nat} {S : St} {out : St} (h : f_X1_become_o83_a2 S = some out) : Sp yX1_become cX1_become 2 none (k_rm 1) D dy S [.ref (dy 2), .ref (D.2.2 2)] (k_Pv dy out) := Sp.of (by decide +kernel) (Nat.le_of_ble_eq_true rfl) (w_X1_become_o83_a2_0 S out h)
noncomputable def f_X10_become_o81_a0_44 : Nat → Int32 → St → Option (St)
  | 0, _, _ => none
  | n + 1, x2, S => if (6 : Int32) ≤ x2 then if ¬ gR S 3 0 = 0 then k_let (sI S 58 (gI S 3)) fun S2 => if ¬ gR S2 3 0 = 0 then k_let (sI S2 59 (gI S2 4)) fun S4 => if ¬ gR S4 3 0 = 0 then if ¬ gR S4 3 0 = 0 then k_let (sF S4 90 (va_cpy (gA S4 9) (gA S4 90) 0 0 8)) fun S7 => if ¬ gR S7 3 0 = 0 then if ¬ gR S7 3 0 = 0 then k_let (sF S7 91 (va_cpy (gA S7 10) (gA S7 91) 0 0 8)) fun S10 => if ¬ gR S10 3 0 = 0 then k_let (sI S10 60 (gI S10 5)) fun S12 => if ¬ gR S12 3 0 = 0 then if ¬ gR S12 3 0 = 0 then k_let (sF S12 92 (va_cpy (gA S12 11) (gA S12 92) 0 0 10)) fun S15 => if ¬ gR S15 3 0 = 0 then if ¬ gR S15 3 0 = 0 then k_let (sF S15 93 (va_cpy (gA S15 12) (gA S15 93) 0 0 10)) fun S18 => if ¬ gR S18 3 0 = 0 then k_let (sI S18 61 (gI S18 6)) fun S20 => if ¬ gR S20 3 0 = 0 then if ¬ gR S20 3 0 = 0 then k_let (sF S20 94 (va_cpy (gA S20 13) (gA S20 94) 0 0 12)) fun S23 => if ¬ gR S23 3 0 = 0 then if ¬ gR S23 3 0 = 0 then k_let (sF S23 95 (va_cpy (gA S23 14) (gA S23 95) 0 0 12)) fun S26 => if ¬ gR S26 3 0 = 0 then k_let (sI S26 62 (gI S26 7)) fun S28 => some S28 else none else none else none else none else none else none else none else none else none else none else none else none else none else none else none else none else none else if ¬ gR S 3 0 = 0 then if k_b x2 6 = true then if gR S 0 x2.toNatClampNeg = 0 then if ¬ gR S 3 0 = 0 then if k_b x2 6 = true then k_let (sR S 1 x2.toNatClampNeg 0) fun S33 => f_X10_become_o81_a0_44 n (x2 + (1 : Int32)) S33 else none else none else if ¬ gR S 3 0 = 0 then (k_code S (gR S 0 x2.toNatClampNeg - 1)).bind fun a35 => if k_b x2 6 = true then k_let (sR S 1 x2.toNatClampNeg ((gR S 0 x2.toNatClampNeg - 1) + 1)) fun S37 => f_X10_become_o81_a0_44 n (x2 + (1 : Int32)) S37 else none else none else none else none
noncomputable def f_X10_become_o81_a0 (S : St) : Option (St) := if ¬ gR S 3 0 = 0 then if ¬ gR S 3 0 = 0 then k_let (sF S 82 (va_cpy (gA S 1) (gA S 82) 0 0 6)) fun S3 => if ¬ gR S3 3 0 = 0 then k_let (sI S3 55 (gI S3 0)) fun S5 => if ¬ gR S5 3 0 = 0 then if ¬ gR S5 3 0 = 0 then (f_X1_become_o83_a2 S5).bind fun q31 => if ¬ gR q31 3 0 = 0 then k_let (sI q31 57 (gI q31 2)) fun S9 => f_X10_become_o81_a0_44 FU (0 : Int32) S9 else none else none else none else none else none else none
set_option maxRecDepth 100000 in
set_option maxHeartbeats 4000000 in
theorem w_X10_become_o81_a0_44 {D : k_D} {dy : Nat → Nat} : ∀ (n : Nat) (x2 : Int32) (S : St) (out : St), f_X10_become_o81_a0_44 n x2 S = some out → Rn yX10_become cX10_become 3 none (k_rm 2) 0 0 D dy S (k_Pv dy out) 44 [(0, .ref (dy 0)), (1, .ref (D.2.2 0)), (2, .int x2)] [] := by
  intro n
  induction n with
  | zero => intro x2 S out h; cases h
  | succ n ih =>
    intro x2 S out h
    rw [f_X10_become_o81_a0_44] at h
    refine r_iload_n 2 dX10_become_44 rfl rfl ?_
    refine r_bipush (v := 6) dX10_become_45 rfl ?_
    refine r_icmp_ge (t := 68) dX10_become_47 (by decide) (fun c => ?_) (fun c => ?_)
    · rw [if_pos c] at h
      refine r_aload_n 0 dX10_become_68 rfl rfl ?_
      refine r_aload_n 1 dX10_become_69 rfl rfl ?_
      refine gf_0_5 q_253 dX10_become_70 ?_
      obtain ⟨c1, h⟩ := g_ite h
      refine pf_81_5 c1 q_253 dX10_become_73 ?_
      generalize sI S 58 (gI S 3) = S2 at h ⊢
      replace h := g_let h
      refine r_aload_n 0 dX10_become_76 rfl rfl ?_
      refine r_aload_n 1 dX10_become_77 rfl rfl ?_
      refine gf_0_6 q_255 dX10_become_78 ?_
      obtain ⟨c3, h⟩ := g_ite h
      refine pf_81_6 c3 q_255 dX10_become_81 ?_
      generalize sI S2 59 (gI S2 4) = S4 at h ⊢
      replace h := g_let h
      refine r_aload_n 1 dX10_become_84 rfl rfl ?_
      refine gf_0_7 q_257 dX10_become_85 ?_
      refine r_iconst (v := 0) dX10_become_88 rfl ?_
      refine r_aload_n 0 dX10_become_89 rfl rfl ?_
      obtain ⟨c5, h⟩ := g_ite h
      refine gf_81_7 c5 q_257 dX10_become_90 ?_
      refine r_iconst (v := 0) dX10_become_93 rfl ?_
      refine r_bipush (v := 8) dX10_become_94 rfl ?_
      obtain ⟨c6, h⟩ := g_ite h
      have hE0 := c6
      refine r_copy (S' := sF S4 90 (va_cpy (gA S4 9) (gA S4 90) 0 0 8)) 9 90 (ce_9 D dy _) (ce_90 D dy _ hE0) rfl rfl (k_sF_90 D dy _ _ hE0).1 (k_sF_90 D dy _ _ hE0).2 (by decide) (by decide) (by decide) (by decide) (by decide) q_1269 q_957 q_956 q_160 ⟨Nat.le_of_ble_eq_true rfl, by decide +kernel⟩ dX10_become_96 ?_
      generalize sF S4 90 (va_cpy (gA S4 9) (gA S4 90) 0 0 8) = S7 at h ⊢
      replace h := g_let h
      refine r_aload_n 1 dX10_become_99 rfl rfl ?_
      refine gf_0_8 q_259 dX10_become_100 ?_
      refine r_iconst (v := 0) dX10_become_103 rfl ?_
      refine r_aload_n 0 dX10_become_104 rfl rfl ?_
      obtain ⟨c8, h⟩ := g_ite h
      refine gf_81_8 c8 q_259 dX10_become_105 ?_
      refine r_iconst (v := 0) dX10_become_108 rfl ?_
      refine r_bipush (v := 8) dX10_become_109 rfl ?_
      obtain ⟨c9, h⟩ := g_ite h
      have hE0 := c9
      refine r_copy (S' := sF S7 91 (va_cpy (gA S7 10) (gA S7 91) 0 0 8)) 10 91 (ce_10 D dy _) (ce_91 D dy _ hE0) rfl rfl (k_sF_91 D dy _ _ hE0).1 (k_sF_91 D dy _ _ hE0).2 (by decide) (by decide) (by decide) (by decide) (by decide) q_1269 q_957 q_956 q_160 ⟨Nat.le_of_ble_eq_true rfl, by decide +kernel⟩ dX10_become_111 ?_
      generalize sF S7 91 (va_cpy (gA S7 10) (gA S7 91) 0 0 8) = S10 at h ⊢
      replace h := g_let h
      refine r_aload_n 0 dX10_become_114 rfl rfl ?_
      refine r_aload_n 1 dX10_become_115 rfl rfl ?_
      refine gf_0_9 q_261 dX10_become_116 ?_
      obtain ⟨c11, h⟩ := g_ite h
      refine pf_81_9 c11 q_261 dX10_become_119 ?_
      generalize sI S10 60 (gI S10 5) = S12 at h ⊢
      replace h := g_let h
      refine r_aload_n 1 dX10_become_122 rfl rfl ?_
      refine gf_0_10 q_264 dX10_become_123 ?_
      refine r_iconst (v := 0) dX10_become_126 rfl ?_
      refine r_aload_n 0 dX10_become_127 rfl rfl ?_
      obtain ⟨c13, h⟩ := g_ite h
      refine gf_81_10 c13 q_264 dX10_become_128 ?_
      refine r_iconst (v := 0) dX10_become_131 rfl ?_
      refine r_bipush (v := 10) dX10_become_132 rfl ?_
      obtain ⟨c14, h⟩ := g_ite h
      have hE0 := c14
      refine r_copy (S' := sF S12 92 (va_cpy (gA S12 11) (gA S12 92) 0 0 10)) 11 92 (ce_11 D dy _) (ce_92 D dy _ hE0) rfl rfl (k_sF_92 D dy _ _ hE0).1 (k_sF_92 D dy _ _ hE0).2 (by decide) (by decide) (by decide) (by decide) (by decide) q_1269 q_957 q_956 q_160 ⟨Nat.le_of_ble_eq_true rfl, by decide +kernel⟩ dX10_become_134 ?_
      generalize sF S12 92 (va_cpy (gA S12 11) (gA S12 92) 0 0 10) = S15 at h ⊢
      replace h := g_let h
      refine r_aload_n 1 dX10_become_137 rfl rfl ?_
      refine gf_0_11 q_266 dX10_become_138 ?_
      refine r_iconst (v := 0) dX10_become_141 rfl ?_
      refine r_aload_n 0 dX10_become_142 rfl rfl ?_
      obtain ⟨c16, h⟩ := g_ite h
      refine gf_81_11 c16 q_266 dX10_become_143 ?_
      refine r_iconst (v := 0) dX10_become_146 rfl ?_
      refine r_bipush (v := 10) dX10_become_147 rfl ?_
      obtain ⟨c17, h⟩ := g_ite h
      have hE0 := c17
      refine r_copy (S' := sF S15 93 (va_cpy (gA S15 12) (gA S15 93) 0 0 10)) 12 93 (ce_12 D dy _) (ce_93 D dy _ hE0) rfl rfl (k_sF_93 D dy _ _ hE0).1 (k_sF_93 D dy _ _ hE0).2 (by decide) (by decide) (by decide) (by decide) (by decide) q_1269 q_957 q_956 q_160 ⟨Nat.le_of_ble_eq_true rfl, by decide +kernel⟩ dX10_become_149 ?_
      generalize sF S15 93 (va_cpy (gA S15 12) (gA S15 93) 0 0 10) = S18 at h ⊢
      replace h := g_let h
      refine r_aload_n 0 dX10_become_152 rfl rfl ?_
      refine r_aload_n 1 dX10_become_153 rfl rfl ?_
      refine gf_0_12 q_268 dX10_become_154 ?_
      obtain ⟨c19, h⟩ := g_ite h
      refine pf_81_12 c19 q_268 dX10_become_157 ?_
      generalize sI S18 61 (gI S18 6) = S20 at h ⊢
      replace h := g_let h
      refine r_aload_n 1 dX10_become_160 rfl rfl ?_
      refine gf_0_13 q_271 dX10_become_161 ?_
      refine r_iconst (v := 0) dX10_become_164 rfl ?_
      refine r_aload_n 0 dX10_become_165 rfl rfl ?_
      obtain ⟨c21, h⟩ := g_ite h
      refine gf_81_13 c21 q_271 dX10_become_166 ?_
      refine r_iconst (v := 0) dX10_become_169 rfl ?_
      refine r_bipush (v := 12) dX10_become_170 rfl ?_
      obtain ⟨c22, h⟩ := g_ite h
      have hE0 := c22
      refine r_copy (S' := sF S20 94 (va_cpy (gA S20 13) (gA S20 94) 0 0 12)) 13 94 (ce_13 D dy _) (ce_94 D dy _ hE0) rfl rfl (k_sF_94 D dy _ _ hE0).1 (k_sF_94 D dy _ _ hE0).2 (by decide) (by decide) (by decide) (by decide) (by decide) q_1269 q_957 q_956 q_160 ⟨Nat.le_of_ble_eq_true rfl, by decide +kernel⟩ dX10_become_172 ?_
      generalize sF S20 94 (va_cpy (gA S20 13) (gA S20 94) 0 0 12) = S23 at h ⊢
      replace h := g_let h
      refine r_aload_n 1 dX10_become_175 rfl rfl ?_
      refine gf_0_14 q_273 dX10_become_176 ?_
      refine r_iconst (v := 0) dX10_become_179 rfl ?_
      refine r_aload_n 0 dX10_become_180 rfl rfl ?_
      obtain ⟨c24, h⟩ := g_ite h
      refine gf_81_14 c24 q_273 dX10_become_181 ?_
      refine r_iconst (v := 0) dX10_become_184 rfl ?_
      refine r_bipush (v := 12) dX10_become_185 rfl ?_
      obtain ⟨c25, h⟩ := g_ite h
      have hE0 := c25
      refine r_copy (S' := sF S23 95 (va_cpy (gA S23 14) (gA S23 95) 0 0 12)) 14 95 (ce_14 D dy _) (ce_95 D dy _ hE0) rfl rfl (k_sF_95 D dy _ _ hE0).1 (k_sF_95 D dy _ _ hE0).2 (by decide) (by decide) (by decide) (by decide) (by decide) q_1269 q_957 q_956 q_160 ⟨Nat.le_of_ble_eq_true rfl, by decide +kernel⟩ dX10_become_187 ?_
      generalize sF S23 95 (va_cpy (gA S23 14) (gA S23 95) 0 0 12) = S26 at h ⊢
      replace h := g_let h
      refine r_aload_n 0 dX10_become_190 rfl rfl ?_
      refine r_aload_n 1 dX10_become_191 rfl rfl ?_
      refine gf_0_15 q_275 dX10_become_192 ?_
      obtain ⟨c27, h⟩ := g_ite h
      refine pf_81_15 c27 q_275 dX10_become_195 ?_
      generalize sI S26 62 (gI S26 7) = S28 at h ⊢
      replace h := g_let h
      exact r_vret rfl dX10_become_198 ⟨rfl, rfl, Option.some.inj h⟩
    · rw [if_neg c] at h
      refine r_aload_n 0 dX10_become_50 rfl rfl ?_
      obtain ⟨c29, h⟩ := g_ite h
      refine gf_81_4 c29 q_252 dX10_become_51 ?_
      refine r_iload_n 2 dX10_become_54 rfl rfl ?_
      refine r_aload_n 1 dX10_become_55 rfl rfl ?_
      refine gf_0_4 q_252 dX10_become_56 ?_
      refine r_iload_n 2 dX10_become_59 rfl rfl ?_
      obtain ⟨c30, h⟩ := g_ite h
      refine r_aaldL (k_b_in c30) dX10_become_60 (fun c => ?_) (fun c => ?_)
      · rw [if_pos c] at h
        obtain ⟨c31, h⟩ := g_ite h
        obtain ⟨c32, h⟩ := g_ite h
        refine r_aastLN_1 c31 (k_b_in c32) dX10_become_61 ?_
        generalize sR S 1 x2.toNatClampNeg 0 = S33 at h ⊢
        replace h := g_let h
        refine r_iinc (q := 2) (v := x2 + (1 : Int32)) dX10_become_62 rfl rfl (by decide) rfl ?_
        refine r_goto (t := 44) dX10_become_65 (by decide) ?_
        refine r_sub [1, 2, 0] rfl ?_
        exact ih _ _ _ h
      · rw [if_neg c] at h
        obtain ⟨c34, h⟩ := g_ite h
        obtain ⟨a35, ha35, h⟩ := g_bind h
        obtain ⟨c36, h⟩ := g_ite h
        refine r_aastL_1 c34 ha35 (k_b_in c36) dX10_become_61 ?_
        generalize sR S 1 x2.toNatClampNeg ((gR S 0 x2.toNatClampNeg - 1) + 1) = S37 at h ⊢
        replace h := g_let h
        refine r_iinc (q := 2) (v := x2 + (1 : Int32)) dX10_become_62 rfl rfl (by decide) rfl ?_
        refine r_goto (t := 44) dX10_become_65 (by decide) ?_
        refine r_sub [1, 2, 0] rfl ?_
        exact ih _ _ _ h
set_option maxRecDepth 100000 in
set_option maxHeartbeats 4000000 in
theorem w_X10_become_o81_a0_0 {D : k_D} {dy : Nat → Nat} (S : St) (out : St) (h : f_X10_become_o81_a0 S = some out) : Rn yX10_become cX10_become 3 none (k_rm 2) 0 0 D dy S (k_Pv dy out) 0 [(0, .ref (dy 0)), (1, .ref (D.2.2 0))] [] := by
    unfold f_X10_become_o81_a0 at h
    refine r_aload_n 1 dX10_become_0 rfl rfl ?_
    refine gf_0_0 q_236 dX10_become_1 ?_
    refine r_iconst (v := 0) dX10_become_4 rfl ?_
    refine r_aload_n 0 dX10_become_5 rfl rfl ?_
    obtain ⟨c1, h⟩ := g_ite h
    refine gf_81_0 c1 q_236 dX10_become_6 ?_
    refine r_iconst (v := 0) dX10_become_9 rfl ?_
    refine r_bipush (v := 6) dX10_become_10 rfl ?_
    obtain ⟨c2, h⟩ := g_ite h
    have hE0 := c2
    refine r_copy (S' := sF S 82 (va_cpy (gA S 1) (gA S 82) 0 0 6)) 1 82 (ce_1 D dy _) (ce_82 D dy _ hE0) rfl rfl (k_sF_82 D dy _ _ hE0).1 (k_sF_82 D dy _ _ hE0).2 (by decide) (by decide) (by decide) (by decide) (by decide) q_1269 q_957 q_956 q_160 ⟨Nat.le_of_ble_eq_true rfl, by decide +kernel⟩ dX10_become_12 ?_
    generalize sF S 82 (va_cpy (gA S 1) (gA S 82) 0 0 6) = S3 at h ⊢
    replace h := g_let h
    refine r_aload_n 0 dX10_become_15 rfl rfl ?_
    refine r_aload_n 1 dX10_become_16 rfl rfl ?_
    refine gf_0_1 q_238 dX10_become_17 ?_
    obtain ⟨c4, h⟩ := g_ite h
    refine pf_81_1 c4 q_238 dX10_become_20 ?_
    generalize sI S3 55 (gI S3 0) = S5 at h ⊢
    replace h := g_let h
    refine r_aload_n 0 dX10_become_23 rfl rfl ?_
    obtain ⟨c6, h⟩ := g_ite h
    refine gf_81_2 c6 q_241 dX10_become_24 ?_
    refine r_aload_n 1 dX10_become_27 rfl rfl ?_
    refine gf_0_2 q_241 dX10_become_28 ?_
    obtain ⟨c7, h⟩ := g_ite h
    have hE0 := c7
    obtain ⟨q31, hq31, h⟩ := g_bind h
    refine r_callVNv [.ref (D.2.2 2)] [] q31 (ok_X1_become_o83_a2 hq31) q_1270 q_1272 q_86 q_1273 q_143 hd_X1_become (ce_83 D dy _ hE0) kc1.1 rfl ⟨Nat.le_of_ble_eq_true rfl, Nat.le_of_ble_eq_true rfl⟩ rfl rfl (Nat.le_of_ble_eq_true rfl) dX10_become_31 ?_
    refine r_aload_n 0 dX10_become_34 rfl rfl ?_
    refine r_aload_n 1 dX10_become_35 rfl rfl ?_
    refine gf_0_3 q_249 dX10_become_36 ?_
    obtain ⟨c8, h⟩ := g_ite h
    refine pf_81_3 c8 q_249 dX10_become_39 ?_
    generalize sI q31 57 (gI q31 2) = S9 at h ⊢
    replace h := g_let h
    refine r_iconst (v := 0) dX10_become_42 rfl ?_
    refine r_istore_n dX10_become_43 rfl (by decide) rfl ?_
    refine r_sub [1, 2, 0] rfl ?_
    exact w_X10_become_o81_a0_44 _ _ _ _ h
theorem ok_X10_become_o81_a0 {D : k_D} {dy : Nat → Nat} {S : St} {out : St} (h : f_X10_become_o81_a0 S = some out) : Sp yX10_become cX10_become 3 none (k_rm 2) D dy S [.ref (dy 0), .ref (D.2.2 0)] (k_Pv dy out) := Sp.of (by decide +kernel) (Nat.le_of_ble_eq_true rfl) (w_X10_become_o81_a0_0 S out h)
noncomputable def f_X1_become_o98_a2 (S : St) : Option (St) := if ¬ gR S 3 1 = 0 then if ¬ gR S 3 1 = 0 then k_let (sF S 99 (va_cpy (gA S 3) (gA S 99) 0 0 16)) fun S3 => if ¬ gR S3 3 1 = 0 then if ¬ gR S3 3 1 = 0 then k_let (sF S3 100 (va_cpy (gA S3 4) (gA S3 100) 0 0 16)) fun S6 => if ¬ gR S6 3 1 = 0 then if ¬ gR S6 3 1 = 0 then k_let (sF S6 101 (va_cpy (gA S6 5) (gA S6 101) 0 0 16)) fun S9 => if ¬ gR S9 3 1 = 0 then if ¬ gR S9 3 1 = 0 then k_let (sF S9 102 (va_cpy (gA S9 6) (gA S9 102) 0 0 16)) fun S12 => if ¬ gR S12 3 1 = 0 then if ¬ gR S12 3 1 = 0 then k_let (sF S12 103 (va_cpy (gA S12 7) (gA S12 103) 0 0 16)) fun S15 => if ¬ gR S15 3 1 = 0 then k_let (sI S15 64 (gI S15 1)) fun S17 => some S17 else none else none else none else none else none else none else none else none else none else none else none
set_option maxRecDepth 100000 in
set_option maxHeartbeats 4000000 in
theorem w_X1_become_o98_a2_0 {D : k_D} {dy : Nat → Nat} (S : St) (out : St) (h : f_X1_become_o98_a2 S = some out) : Rn yX1_become cX1_become 2 none (k_rm 1) 0 0 D dy S (k_Pv dy out) 0 [(0, .ref (dy 17)), (1, .ref (D.2.2 2))] [] := by
    unfold f_X1_become_o98_a2 at h
    refine r_aload_n 1 dX1_become_0 rfl rfl ?_
    refine gf_2_0 q_182 dX1_become_1 ?_
    refine r_iconst (v := 0) dX1_become_4 rfl ?_
    refine r_aload_n 0 dX1_become_5 rfl rfl ?_
    obtain ⟨c1, h⟩ := g_ite h
    refine gf_98_0 c1 q_182 dX1_become_6 ?_
    refine r_iconst (v := 0) dX1_become_9 rfl ?_
    refine r_bipush (v := 16) dX1_become_10 rfl ?_
    obtain ⟨c2, h⟩ := g_ite h
    have hE1 := c2
    refine r_copy (S' := sF S 99 (va_cpy (gA S 3) (gA S 99) 0 0 16)) 3 99 (ce_3 D dy _) (ce_99 D dy _ hE1) rfl rfl (k_sF_99 D dy _ _ hE1).1 (k_sF_99 D dy _ _ hE1).2 (by decide) (by decide) (by decide) (by decide) (by decide) q_1274 q_957 q_956 q_160 ⟨Nat.le_of_ble_eq_true rfl, by decide +kernel⟩ dX1_become_12 ?_
    generalize sF S 99 (va_cpy (gA S 3) (gA S 99) 0 0 16) = S3 at h ⊢
    replace h := g_let h
    refine r_aload_n 1 dX1_become_15 rfl rfl ?_
    refine gf_2_1 q_188 dX1_become_16 ?_
    refine r_iconst (v := 0) dX1_become_19 rfl ?_
    refine r_aload_n 0 dX1_become_20 rfl rfl ?_
    obtain ⟨c4, h⟩ := g_ite h
    refine gf_98_1 c4 q_188 dX1_become_21 ?_
    refine r_iconst (v := 0) dX1_become_24 rfl ?_
    refine r_bipush (v := 16) dX1_become_25 rfl ?_
    obtain ⟨c5, h⟩ := g_ite h
    have hE1 := c5
    refine r_copy (S' := sF S3 100 (va_cpy (gA S3 4) (gA S3 100) 0 0 16)) 4 100 (ce_4 D dy _) (ce_100 D dy _ hE1) rfl rfl (k_sF_100 D dy _ _ hE1).1 (k_sF_100 D dy _ _ hE1).2 (by decide) (by decide) (by decide) (by decide) (by decide) q_1274 q_957 q_956 q_160 ⟨Nat.le_of_ble_eq_true rfl, by decide +kernel⟩ dX1_become_27 ?_
    generalize sF S3 100 (va_cpy (gA S3 4) (gA S3 100) 0 0 16) = S6 at h ⊢
    replace h := g_let h
    refine r_aload_n 1 dX1_become_30 rfl rfl ?_
    refine gf_2_2 q_195 dX1_become_31 ?_
    refine r_iconst (v := 0) dX1_become_34 rfl ?_
    refine r_aload_n 0 dX1_become_35 rfl rfl ?_
    obtain ⟨c7, h⟩ := g_ite h
    refine gf_98_2 c7 q_195 dX1_become_36 ?_
    refine r_iconst (v := 0) dX1_become_39 rfl ?_
    refine r_bipush (v := 16) dX1_become_40 rfl ?_
    obtain ⟨c8, h⟩ := g_ite h
    have hE1 := c8
    refine r_copy (S' := sF S6 101 (va_cpy (gA S6 5) (gA S6 101) 0 0 16)) 5 101 (ce_5 D dy _) (ce_101 D dy _ hE1) rfl rfl (k_sF_101 D dy _ _ hE1).1 (k_sF_101 D dy _ _ hE1).2 (by decide) (by decide) (by decide) (by decide) (by decide) q_1274 q_957 q_956 q_160 ⟨Nat.le_of_ble_eq_true rfl, by decide +kernel⟩ dX1_become_42 ?_
    generalize sF S6 101 (va_cpy (gA S6 5) (gA S6 101) 0 0 16) = S9 at h ⊢
    replace h := g_let h
    refine r_aload_n 1 dX1_become_45 rfl rfl ?_
    refine gf_2_3 q_201 dX1_become_46 ?_
    refine r_iconst (v := 0) dX1_become_49 rfl ?_
    refine r_aload_n 0 dX1_become_50 rfl rfl ?_
    obtain ⟨c10, h⟩ := g_ite h
    refine gf_98_3 c10 q_201 dX1_become_51 ?_
    refine r_iconst (v := 0) dX1_become_54 rfl ?_
    refine r_bipush (v := 16) dX1_become_55 rfl ?_
    obtain ⟨c11, h⟩ := g_ite h
    have hE1 := c11
    refine r_copy (S' := sF S9 102 (va_cpy (gA S9 6) (gA S9 102) 0 0 16)) 6 102 (ce_6 D dy _) (ce_102 D dy _ hE1) rfl rfl (k_sF_102 D dy _ _ hE1).1 (k_sF_102 D dy _ _ hE1).2 (by decide) (by decide) (by decide) (by decide) (by decide) q_1274 q_957 q_956 q_160 ⟨Nat.le_of_ble_eq_true rfl, by decide +kernel⟩ dX1_become_57 ?_
    generalize sF S9 102 (va_cpy (gA S9 6) (gA S9 102) 0 0 16) = S12 at h ⊢
    replace h := g_let h
    refine r_aload_n 1 dX1_become_60 rfl rfl ?_
    refine gf_2_4 q_209 dX1_become_61 ?_
    refine r_iconst (v := 0) dX1_become_64 rfl ?_
    refine r_aload_n 0 dX1_become_65 rfl rfl ?_
    obtain ⟨c13, h⟩ := g_ite h
    refine gf_98_4 c13 q_209 dX1_become_66 ?_
    refine r_iconst (v := 0) dX1_become_69 rfl ?_
    refine r_bipush (v := 16) dX1_become_70 rfl ?_
    obtain ⟨c14, h⟩ := g_ite h
    have hE1 := c14
    refine r_copy (S' := sF S12 103 (va_cpy (gA S12 7) (gA S12 103) 0 0 16)) 7 103 (ce_7 D dy _) (ce_103 D dy _ hE1) rfl rfl (k_sF_103 D dy _ _ hE1).1 (k_sF_103 D dy _ _ hE1).2 (by decide) (by decide) (by decide) (by decide) (by decide) q_1274 q_957 q_956 q_160 ⟨Nat.le_of_ble_eq_true rfl, by decide +kernel⟩ dX1_become_72 ?_
    generalize sF S12 103 (va_cpy (gA S12 7) (gA S12 103) 0 0 16) = S15 at h ⊢
    replace h := g_let h
    refine r_aload_n 0 dX1_become_75 rfl rfl ?_
    refine r_aload_n 1 dX1_become_76 rfl rfl ?_
    refine gf_2_5 q_211 dX1_become_77 ?_
    obtain ⟨c16, h⟩ := g_ite h
    refine pf_98_5 c16 q_211 dX1_become_80 ?_
    generalize sI S15 64 (gI S15 1) = S17 at h ⊢
    replace h := g_let h
    exact r_vret rfl dX1_become_83 ⟨rfl, rfl, Option.some.inj h⟩
theorem ok_X1_become_o98_a2 {D : k_D} {dy : Nat → Nat} {S : St} {out : St} (h : f_X1_become_o98_a2 S = some out) : Sp yX1_become cX1_become 2 none (k_rm 1) D dy S [.ref (dy 17), .ref (D.2.2 2)] (k_Pv dy out) := Sp.of (by decide +kernel) (Nat.le_of_ble_eq_true rfl) (w_X1_become_o98_a2_0 S out h)
noncomputable def f_X10_become_o96_a0_44 : Nat → Int32 → St → Option (St)
  | 0, _, _ => none
  | n + 1, x2, S => if (6 : Int32) ≤ x2 then if ¬ gR S 3 1 = 0 then k_let (sI S 66 (gI S 3)) fun S2 => if ¬ gR S2 3 1 = 0 then k_let (sI S2 67 (gI S2 4)) fun S4 => if ¬ gR S4 3 1 = 0 then if ¬ gR S4 3 1 = 0 then k_let (sF S4 105 (va_cpy (gA S4 9) (gA S4 105) 0 0 8)) fun S7 => if ¬ gR S7 3 1 = 0 then if ¬ gR S7 3 1 = 0 then k_let (sF S7 106 (va_cpy (gA S7 10) (gA S7 106) 0 0 8)) fun S10 => if ¬ gR S10 3 1 = 0 then k_let (sI S10 68 (gI S10 5)) fun S12 => if ¬ gR S12 3 1 = 0 then if ¬ gR S12 3 1 = 0 then k_let (sF S12 107 (va_cpy (gA S12 11) (gA S12 107) 0 0 10)) fun S15 => if ¬ gR S15 3 1 = 0 then if ¬ gR S15 3 1 = 0 then k_let (sF S15 108 (va_cpy (gA S15 12) (gA S15 108) 0 0 10)) fun S18 => if ¬ gR S18 3 1 = 0 then k_let (sI S18 69 (gI S18 6)) fun S20 => if ¬ gR S20 3 1 = 0 then if ¬ gR S20 3 1 = 0 then k_let (sF S20 109 (va_cpy (gA S20 13) (gA S20 109) 0 0 12)) fun S23 => if ¬ gR S23 3 1 = 0 then if ¬ gR S23 3 1 = 0 then k_let (sF S23 110 (va_cpy (gA S23 14) (gA S23 110) 0 0 12)) fun S26 => if ¬ gR S26 3 1 = 0 then k_let (sI S26 70 (gI S26 7)) fun S28 => some S28 else none else none else none else none else none else none else none else none else none else none else none else none else none else none else none else none else none else if ¬ gR S 3 1 = 0 then if k_b x2 6 = true then if gR S 0 x2.toNatClampNeg = 0 then if ¬ gR S 3 1 = 0 then if k_b x2 6 = true then k_let (sR S 2 x2.toNatClampNeg 0) fun S33 => f_X10_become_o96_a0_44 n (x2 + (1 : Int32)) S33 else none else none else if ¬ gR S 3 1 = 0 then (k_code S (gR S 0 x2.toNatClampNeg - 1)).bind fun a35 => if k_b x2 6 = true then k_let (sR S 2 x2.toNatClampNeg ((gR S 0 x2.toNatClampNeg - 1) + 1)) fun S37 => f_X10_become_o96_a0_44 n (x2 + (1 : Int32)) S37 else none else none else none else none
noncomputable def f_X10_become_o96_a0 (S : St) : Option (St) := if ¬ gR S 3 1 = 0 then if ¬ gR S 3 1 = 0 then k_let (sF S 97 (va_cpy (gA S 1) (gA S 97) 0 0 6)) fun S3 => if ¬ gR S3 3 1 = 0 then k_let (sI S3 63 (gI S3 0)) fun S5 => if ¬ gR S5 3 1 = 0 then if ¬ gR S5 3 1 = 0 then (f_X1_become_o98_a2 S5).bind fun q31 => if ¬ gR q31 3 1 = 0 then k_let (sI q31 65 (gI q31 2)) fun S9 => f_X10_become_o96_a0_44 FU (0 : Int32) S9 else none else none else none else none else none else none
set_option maxRecDepth 100000 in
set_option maxHeartbeats 4000000 in
theorem w_X10_become_o96_a0_44 {D : k_D} {dy : Nat → Nat} : ∀ (n : Nat) (x2 : Int32) (S : St) (out : St), f_X10_become_o96_a0_44 n x2 S = some out → Rn yX10_become cX10_become 3 none (k_rm 2) 0 0 D dy S (k_Pv dy out) 44 [(0, .ref (dy 15)), (1, .ref (D.2.2 0)), (2, .int x2)] [] := by
  intro n
  induction n with
  | zero => intro x2 S out h; cases h
  | succ n ih =>
    intro x2 S out h
    rw [f_X10_become_o96_a0_44] at h
    refine r_iload_n 2 dX10_become_44 rfl rfl ?_
    refine r_bipush (v := 6) dX10_become_45 rfl ?_
    refine r_icmp_ge (t := 68) dX10_become_47 (by decide) (fun c => ?_) (fun c => ?_)
    · rw [if_pos c] at h
      refine r_aload_n 0 dX10_become_68 rfl rfl ?_
      refine r_aload_n 1 dX10_become_69 rfl rfl ?_
      refine gf_0_5 q_253 dX10_become_70 ?_
      obtain ⟨c1, h⟩ := g_ite h
      refine pf_96_5 c1 q_253 dX10_become_73 ?_
      generalize sI S 66 (gI S 3) = S2 at h ⊢
      replace h := g_let h
      refine r_aload_n 0 dX10_become_76 rfl rfl ?_
      refine r_aload_n 1 dX10_become_77 rfl rfl ?_
      refine gf_0_6 q_255 dX10_become_78 ?_
      obtain ⟨c3, h⟩ := g_ite h
      refine pf_96_6 c3 q_255 dX10_become_81 ?_
      generalize sI S2 67 (gI S2 4) = S4 at h ⊢
      replace h := g_let h
      refine r_aload_n 1 dX10_become_84 rfl rfl ?_
      refine gf_0_7 q_257 dX10_become_85 ?_
      refine r_iconst (v := 0) dX10_become_88 rfl ?_
      refine r_aload_n 0 dX10_become_89 rfl rfl ?_
      obtain ⟨c5, h⟩ := g_ite h
      refine gf_96_7 c5 q_257 dX10_become_90 ?_
      refine r_iconst (v := 0) dX10_become_93 rfl ?_
      refine r_bipush (v := 8) dX10_become_94 rfl ?_
      obtain ⟨c6, h⟩ := g_ite h
      have hE1 := c6
      refine r_copy (S' := sF S4 105 (va_cpy (gA S4 9) (gA S4 105) 0 0 8)) 9 105 (ce_9 D dy _) (ce_105 D dy _ hE1) rfl rfl (k_sF_105 D dy _ _ hE1).1 (k_sF_105 D dy _ _ hE1).2 (by decide) (by decide) (by decide) (by decide) (by decide) q_1269 q_957 q_956 q_160 ⟨Nat.le_of_ble_eq_true rfl, by decide +kernel⟩ dX10_become_96 ?_
      generalize sF S4 105 (va_cpy (gA S4 9) (gA S4 105) 0 0 8) = S7 at h ⊢
      replace h := g_let h
      refine r_aload_n 1 dX10_become_99 rfl rfl ?_
      refine gf_0_8 q_259 dX10_become_100 ?_
      refine r_iconst (v := 0) dX10_become_103 rfl ?_
      refine r_aload_n 0 dX10_become_104 rfl rfl ?_
      obtain ⟨c8, h⟩ := g_ite h
      refine gf_96_8 c8 q_259 dX10_become_105 ?_
      refine r_iconst (v := 0) dX10_become_108 rfl ?_
      refine r_bipush (v := 8) dX10_become_109 rfl ?_
      obtain ⟨c9, h⟩ := g_ite h
      have hE1 := c9
      refine r_copy (S' := sF S7 106 (va_cpy (gA S7 10) (gA S7 106) 0 0 8)) 10 106 (ce_10 D dy _) (ce_106 D dy _ hE1) rfl rfl (k_sF_106 D dy _ _ hE1).1 (k_sF_106 D dy _ _ hE1).2 (by decide) (by decide) (by decide) (by decide) (by decide) q_1269 q_957 q_956 q_160 ⟨Nat.le_of_ble_eq_true rfl, by decide +kernel⟩ dX10_become_111 ?_
      generalize sF S7 106 (va_cpy (gA S7 10) (gA S7 106) 0 0 8) = S10 at h ⊢
      replace h := g_let h
      refine r_aload_n 0 dX10_become_114 rfl rfl ?_
      refine r_aload_n 1 dX10_become_115 rfl rfl ?_
      refine gf_0_9 q_261 dX10_become_116 ?_
      obtain ⟨c11, h⟩ := g_ite h
      refine pf_96_9 c11 q_261 dX10_become_119 ?_
      generalize sI S10 68 (gI S10 5) = S12 at h ⊢
      replace h := g_let h
      refine r_aload_n 1 dX10_become_122 rfl rfl ?_
      refine gf_0_10 q_264 dX10_become_123 ?_
      refine r_iconst (v := 0) dX10_become_126 rfl ?_
      refine r_aload_n 0 dX10_become_127 rfl rfl ?_
      obtain ⟨c13, h⟩ := g_ite h
      refine gf_96_10 c13 q_264 dX10_become_128 ?_
      refine r_iconst (v := 0) dX10_become_131 rfl ?_
      refine r_bipush (v := 10) dX10_become_132 rfl ?_
      obtain ⟨c14, h⟩ := g_ite h
      have hE1 := c14
      refine r_copy (S' := sF S12 107 (va_cpy (gA S12 11) (gA S12 107) 0 0 10)) 11 107 (ce_11 D dy _) (ce_107 D dy _ hE1) rfl rfl (k_sF_107 D dy _ _ hE1).1 (k_sF_107 D dy _ _ hE1).2 (by decide) (by decide) (by decide) (by decide) (by decide) q_1269 q_957 q_956 q_160 ⟨Nat.le_of_ble_eq_true rfl, by decide +kernel⟩ dX10_become_134 ?_
      generalize sF S12 107 (va_cpy (gA S12 11) (gA S12 107) 0 0 10) = S15 at h ⊢
      replace h := g_let h
      refine r_aload_n 1 dX10_become_137 rfl rfl ?_
      refine gf_0_11 q_266 dX10_become_138 ?_
      refine r_iconst (v := 0) dX10_become_141 rfl ?_
      refine r_aload_n 0 dX10_become_142 rfl rfl ?_
      obtain ⟨c16, h⟩ := g_ite h
      refine gf_96_11 c16 q_266 dX10_become_143 ?_
      refine r_iconst (v := 0) dX10_become_146 rfl ?_
      refine r_bipush (v := 10) dX10_become_147 rfl ?_
      obtain ⟨c17, h⟩ := g_ite h
      have hE1 := c17
      refine r_copy (S' := sF S15 108 (va_cpy (gA S15 12) (gA S15 108) 0 0 10)) 12 108 (ce_12 D dy _) (ce_108 D dy _ hE1) rfl rfl (k_sF_108 D dy _ _ hE1).1 (k_sF_108 D dy _ _ hE1).2 (by decide) (by decide) (by decide) (by decide) (by decide) q_1269 q_957 q_956 q_160 ⟨Nat.le_of_ble_eq_true rfl, by decide +kernel⟩ dX10_become_149 ?_
      generalize sF S15 108 (va_cpy (gA S15 12) (gA S15 108) 0 0 10) = S18 at h ⊢
      replace h := g_let h
      refine r_aload_n 0 dX10_become_152 rfl rfl ?_
      refine r_aload_n 1 dX10_become_153 rfl rfl ?_
      refine gf_0_12 q_268 dX10_become_154 ?_
      obtain ⟨c19, h⟩ := g_ite h
      refine pf_96_12 c19 q_268 dX10_become_157 ?_
      generalize sI S18 69 (gI S18 6) = S20 at h ⊢
      replace h := g_let h
      refine r_aload_n 1 dX10_become_160 rfl rfl ?_
      refine gf_0_13 q_271 dX10_become_161 ?_
      refine r_iconst (v := 0) dX10_become_164 rfl ?_
      refine r_aload_n 0 dX10_become_165 rfl rfl ?_
      obtain ⟨c21, h⟩ := g_ite h
      refine gf_96_13 c21 q_271 dX10_become_166 ?_
      refine r_iconst (v := 0) dX10_become_169 rfl ?_
      refine r_bipush (v := 12) dX10_become_170 rfl ?_
      obtain ⟨c22, h⟩ := g_ite h
      have hE1 := c22
      refine r_copy (S' := sF S20 109 (va_cpy (gA S20 13) (gA S20 109) 0 0 12)) 13 109 (ce_13 D dy _) (ce_109 D dy _ hE1) rfl rfl (k_sF_109 D dy _ _ hE1).1 (k_sF_109 D dy _ _ hE1).2 (by decide) (by decide) (by decide) (by decide) (by decide) q_1269 q_957 q_956 q_160 ⟨Nat.le_of_ble_eq_true rfl, by decide +kernel⟩ dX10_become_172 ?_
      generalize sF S20 109 (va_cpy (gA S20 13) (gA S20 109) 0 0 12) = S23 at h ⊢
      replace h := g_let h
      refine r_aload_n 1 dX10_become_175 rfl rfl ?_
      refine gf_0_14 q_273 dX10_become_176 ?_
      refine r_iconst (v := 0) dX10_become_179 rfl ?_
      refine r_aload_n 0 dX10_become_180 rfl rfl ?_
      obtain ⟨c24, h⟩ := g_ite h
      refine gf_96_14 c24 q_273 dX10_become_181 ?_
      refine r_iconst (v := 0) dX10_become_184 rfl ?_
      refine r_bipush (v := 12) dX10_become_185 rfl ?_
      obtain ⟨c25, h⟩ := g_ite h
      have hE1 := c25
      refine r_copy (S' := sF S23 110 (va_cpy (gA S23 14) (gA S23 110) 0 0 12)) 14 110 (ce_14 D dy _) (ce_110 D dy _ hE1) rfl rfl (k_sF_110 D dy _ _ hE1).1 (k_sF_110 D dy _ _ hE1).2 (by decide) (by decide) (by decide) (by decide) (by decide) q_1269 q_957 q_956 q_160 ⟨Nat.le_of_ble_eq_true rfl, by decide +kernel⟩ dX10_become_187 ?_
      generalize sF S23 110 (va_cpy (gA S23 14) (gA S23 110) 0 0 12) = S26 at h ⊢
      replace h := g_let h
      refine r_aload_n 0 dX10_become_190 rfl rfl ?_
      refine r_aload_n 1 dX10_become_191 rfl rfl ?_
      refine gf_0_15 q_275 dX10_become_192 ?_
      obtain ⟨c27, h⟩ := g_ite h
      refine pf_96_15 c27 q_275 dX10_become_195 ?_
      generalize sI S26 70 (gI S26 7) = S28 at h ⊢
      replace h := g_let h
      exact r_vret rfl dX10_become_198 ⟨rfl, rfl, Option.some.inj h⟩
    · rw [if_neg c] at h
      refine r_aload_n 0 dX10_become_50 rfl rfl ?_
      obtain ⟨c29, h⟩ := g_ite h
      refine gf_96_4 c29 q_252 dX10_become_51 ?_
      refine r_iload_n 2 dX10_become_54 rfl rfl ?_
      refine r_aload_n 1 dX10_become_55 rfl rfl ?_
      refine gf_0_4 q_252 dX10_become_56 ?_
      refine r_iload_n 2 dX10_become_59 rfl rfl ?_
      obtain ⟨c30, h⟩ := g_ite h
      refine r_aaldL (k_b_in c30) dX10_become_60 (fun c => ?_) (fun c => ?_)
      · rw [if_pos c] at h
        obtain ⟨c31, h⟩ := g_ite h
        obtain ⟨c32, h⟩ := g_ite h
        refine r_aastLN_2 c31 (k_b_in c32) dX10_become_61 ?_
        generalize sR S 2 x2.toNatClampNeg 0 = S33 at h ⊢
        replace h := g_let h
        refine r_iinc (q := 2) (v := x2 + (1 : Int32)) dX10_become_62 rfl rfl (by decide) rfl ?_
        refine r_goto (t := 44) dX10_become_65 (by decide) ?_
        refine r_sub [1, 2, 0] rfl ?_
        exact ih _ _ _ h
      · rw [if_neg c] at h
        obtain ⟨c34, h⟩ := g_ite h
        obtain ⟨a35, ha35, h⟩ := g_bind h
        obtain ⟨c36, h⟩ := g_ite h
        refine r_aastL_2 c34 ha35 (k_b_in c36) dX10_become_61 ?_
        generalize sR S 2 x2.toNatClampNeg ((gR S 0 x2.toNatClampNeg - 1) + 1) = S37 at h ⊢
        replace h := g_let h
        refine r_iinc (q := 2) (v := x2 + (1 : Int32)) dX10_become_62 rfl rfl (by decide) rfl ?_
        refine r_goto (t := 44) dX10_become_65 (by decide) ?_
        refine r_sub [1, 2, 0] rfl ?_
        exact ih _ _ _ h
set_option maxRecDepth 100000 in
set_option maxHeartbeats 4000000 in
theorem w_X10_become_o96_a0_0 {D : k_D} {dy : Nat → Nat} (S : St) (out : St) (h : f_X10_become_o96_a0 S = some out) : Rn yX10_become cX10_become 3 none (k_rm 2) 0 0 D dy S (k_Pv dy out) 0 [(0, .ref (dy 15)), (1, .ref (D.2.2 0))] [] := by
    unfold f_X10_become_o96_a0 at h
    refine r_aload_n 1 dX10_become_0 rfl rfl ?_
    refine gf_0_0 q_236 dX10_become_1 ?_
    refine r_iconst (v := 0) dX10_become_4 rfl ?_
    refine r_aload_n 0 dX10_become_5 rfl rfl ?_
    obtain ⟨c1, h⟩ := g_ite h
    refine gf_96_0 c1 q_236 dX10_become_6 ?_
    refine r_iconst (v := 0) dX10_become_9 rfl ?_
    refine r_bipush (v := 6) dX10_become_10 rfl ?_
    obtain ⟨c2, h⟩ := g_ite h
    have hE1 := c2
    refine r_copy (S' := sF S 97 (va_cpy (gA S 1) (gA S 97) 0 0 6)) 1 97 (ce_1 D dy _) (ce_97 D dy _ hE1) rfl rfl (k_sF_97 D dy _ _ hE1).1 (k_sF_97 D dy _ _ hE1).2 (by decide) (by decide) (by decide) (by decide) (by decide) q_1269 q_957 q_956 q_160 ⟨Nat.le_of_ble_eq_true rfl, by decide +kernel⟩ dX10_become_12 ?_
    generalize sF S 97 (va_cpy (gA S 1) (gA S 97) 0 0 6) = S3 at h ⊢
    replace h := g_let h
    refine r_aload_n 0 dX10_become_15 rfl rfl ?_
    refine r_aload_n 1 dX10_become_16 rfl rfl ?_
    refine gf_0_1 q_238 dX10_become_17 ?_
    obtain ⟨c4, h⟩ := g_ite h
    refine pf_96_1 c4 q_238 dX10_become_20 ?_
    generalize sI S3 63 (gI S3 0) = S5 at h ⊢
    replace h := g_let h
    refine r_aload_n 0 dX10_become_23 rfl rfl ?_
    obtain ⟨c6, h⟩ := g_ite h
    refine gf_96_2 c6 q_241 dX10_become_24 ?_
    refine r_aload_n 1 dX10_become_27 rfl rfl ?_
    refine gf_0_2 q_241 dX10_become_28 ?_
    obtain ⟨c7, h⟩ := g_ite h
    have hE1 := c7
    obtain ⟨q31, hq31, h⟩ := g_bind h
    refine r_callVNv [.ref (D.2.2 2)] [] q31 (ok_X1_become_o98_a2 hq31) q_1270 q_1272 q_86 q_1273 q_143 hd_X1_become (ce_98 D dy _ hE1) kc1.1 rfl ⟨Nat.le_of_ble_eq_true rfl, Nat.le_of_ble_eq_true rfl⟩ rfl rfl (Nat.le_of_ble_eq_true rfl) dX10_become_31 ?_
    refine r_aload_n 0 dX10_become_34 rfl rfl ?_
    refine r_aload_n 1 dX10_become_35 rfl rfl ?_
    refine gf_0_3 q_249 dX10_become_36 ?_
    obtain ⟨c8, h⟩ := g_ite h
    refine pf_96_3 c8 q_249 dX10_become_39 ?_
    generalize sI q31 65 (gI q31 2) = S9 at h ⊢
    replace h := g_let h
    refine r_iconst (v := 0) dX10_become_42 rfl ?_
    refine r_istore_n dX10_become_43 rfl (by decide) rfl ?_
    refine r_sub [1, 2, 0] rfl ?_
    exact w_X10_become_o96_a0_44 _ _ _ _ h
theorem ok_X10_become_o96_a0 {D : k_D} {dy : Nat → Nat} {S : St} {out : St} (h : f_X10_become_o96_a0 S = some out) : Sp yX10_become cX10_become 3 none (k_rm 2) D dy S [.ref (dy 15), .ref (D.2.2 0)] (k_Pv dy out) := Sp.of (by decide +kernel) (Nat.le_of_ble_eq_true rfl) (w_X10_become_o96_a0_0 S out h)
noncomputable def f_X1_become_a83 (S : St) : Option (St) := if ¬ gR S 3 0 = 0 then if ¬ gR S 3 0 = 0 then k_let (sF S 3 (va_cpy (gA S 84) (gA S 3) 0 0 16)) fun S3 => if ¬ gR S3 3 0 = 0 then if ¬ gR S3 3 0 = 0 then k_let (sF S3 4 (va_cpy (gA S3 85) (gA S3 4) 0 0 16)) fun S6 => if ¬ gR S6 3 0 = 0 then if ¬ gR S6 3 0 = 0 then k_let (sF S6 5 (va_cpy (gA S6 86) (gA S6 5) 0 0 16)) fun S9 => if ¬ gR S9 3 0 = 0 then if ¬ gR S9 3 0 = 0 then k_let (sF S9 6 (va_cpy (gA S9 87) (gA S9 6) 0 0 16)) fun S12 => if ¬ gR S12 3 0 = 0 then if ¬ gR S12 3 0 = 0 then k_let (sF S12 7 (va_cpy (gA S12 88) (gA S12 7) 0 0 16)) fun S15 => if ¬ gR S15 3 0 = 0 then k_let (sI S15 1 (gI S15 56)) fun S17 => some S17 else none else none else none else none else none else none else none else none else none else none else none
set_option maxRecDepth 100000 in
set_option maxHeartbeats 4000000 in
theorem w_X1_become_a83_0 {D : k_D} {dy : Nat → Nat} (S : St) (out : St) (h : f_X1_become_a83 S = some out) : Rn yX1_become cX1_become 2 none (k_rm 1) 0 0 D dy S (k_Pv dy out) 0 [(0, .ref (D.2.2 2)), (1, .ref (dy 2))] [] := by
    unfold f_X1_become_a83 at h
    refine r_aload_n 1 dX1_become_0 rfl rfl ?_
    obtain ⟨c1, h⟩ := g_ite h
    refine gf_83_0 c1 q_182 dX1_become_1 ?_
    refine r_iconst (v := 0) dX1_become_4 rfl ?_
    refine r_aload_n 0 dX1_become_5 rfl rfl ?_
    refine gf_2_0 q_182 dX1_become_6 ?_
    refine r_iconst (v := 0) dX1_become_9 rfl ?_
    refine r_bipush (v := 16) dX1_become_10 rfl ?_
    obtain ⟨c2, h⟩ := g_ite h
    have hE0 := c2
    refine r_copy (S' := sF S 3 (va_cpy (gA S 84) (gA S 3) 0 0 16)) 84 3 (ce_84 D dy _ hE0) (ce_3 D dy _) rfl rfl (k_sF_3 D dy _ _).1 (k_sF_3 D dy _ _).2 (by decide) (by decide) (by decide) (by decide) (by decide) q_1274 q_957 q_956 q_160 ⟨Nat.le_of_ble_eq_true rfl, by decide +kernel⟩ dX1_become_12 ?_
    generalize sF S 3 (va_cpy (gA S 84) (gA S 3) 0 0 16) = S3 at h ⊢
    replace h := g_let h
    refine r_aload_n 1 dX1_become_15 rfl rfl ?_
    obtain ⟨c4, h⟩ := g_ite h
    refine gf_83_1 c4 q_188 dX1_become_16 ?_
    refine r_iconst (v := 0) dX1_become_19 rfl ?_
    refine r_aload_n 0 dX1_become_20 rfl rfl ?_
    refine gf_2_1 q_188 dX1_become_21 ?_
    refine r_iconst (v := 0) dX1_become_24 rfl ?_
    refine r_bipush (v := 16) dX1_become_25 rfl ?_
    obtain ⟨c5, h⟩ := g_ite h
    have hE0 := c5
    refine r_copy (S' := sF S3 4 (va_cpy (gA S3 85) (gA S3 4) 0 0 16)) 85 4 (ce_85 D dy _ hE0) (ce_4 D dy _) rfl rfl (k_sF_4 D dy _ _).1 (k_sF_4 D dy _ _).2 (by decide) (by decide) (by decide) (by decide) (by decide) q_1274 q_957 q_956 q_160 ⟨Nat.le_of_ble_eq_true rfl, by decide +kernel⟩ dX1_become_27 ?_
    generalize sF S3 4 (va_cpy (gA S3 85) (gA S3 4) 0 0 16) = S6 at h ⊢
    replace h := g_let h
    refine r_aload_n 1 dX1_become_30 rfl rfl ?_
    obtain ⟨c7, h⟩ := g_ite h
    refine gf_83_2 c7 q_195 dX1_become_31 ?_
    refine r_iconst (v := 0) dX1_become_34 rfl ?_
    refine r_aload_n 0 dX1_become_35 rfl rfl ?_
    refine gf_2_2 q_195 dX1_become_36 ?_
    refine r_iconst (v := 0) dX1_become_39 rfl ?_
    refine r_bipush (v := 16) dX1_become_40 rfl ?_
    obtain ⟨c8, h⟩ := g_ite h
    have hE0 := c8
    refine r_copy (S' := sF S6 5 (va_cpy (gA S6 86) (gA S6 5) 0 0 16)) 86 5 (ce_86 D dy _ hE0) (ce_5 D dy _) rfl rfl (k_sF_5 D dy _ _).1 (k_sF_5 D dy _ _).2 (by decide) (by decide) (by decide) (by decide) (by decide) q_1274 q_957 q_956 q_160 ⟨Nat.le_of_ble_eq_true rfl, by decide +kernel⟩ dX1_become_42 ?_
    generalize sF S6 5 (va_cpy (gA S6 86) (gA S6 5) 0 0 16) = S9 at h ⊢
    replace h := g_let h
    refine r_aload_n 1 dX1_become_45 rfl rfl ?_
    obtain ⟨c10, h⟩ := g_ite h
    refine gf_83_3 c10 q_201 dX1_become_46 ?_
    refine r_iconst (v := 0) dX1_become_49 rfl ?_
    refine r_aload_n 0 dX1_become_50 rfl rfl ?_
    refine gf_2_3 q_201 dX1_become_51 ?_
    refine r_iconst (v := 0) dX1_become_54 rfl ?_
    refine r_bipush (v := 16) dX1_become_55 rfl ?_
    obtain ⟨c11, h⟩ := g_ite h
    have hE0 := c11
    refine r_copy (S' := sF S9 6 (va_cpy (gA S9 87) (gA S9 6) 0 0 16)) 87 6 (ce_87 D dy _ hE0) (ce_6 D dy _) rfl rfl (k_sF_6 D dy _ _).1 (k_sF_6 D dy _ _).2 (by decide) (by decide) (by decide) (by decide) (by decide) q_1274 q_957 q_956 q_160 ⟨Nat.le_of_ble_eq_true rfl, by decide +kernel⟩ dX1_become_57 ?_
    generalize sF S9 6 (va_cpy (gA S9 87) (gA S9 6) 0 0 16) = S12 at h ⊢
    replace h := g_let h
    refine r_aload_n 1 dX1_become_60 rfl rfl ?_
    obtain ⟨c13, h⟩ := g_ite h
    refine gf_83_4 c13 q_209 dX1_become_61 ?_
    refine r_iconst (v := 0) dX1_become_64 rfl ?_
    refine r_aload_n 0 dX1_become_65 rfl rfl ?_
    refine gf_2_4 q_209 dX1_become_66 ?_
    refine r_iconst (v := 0) dX1_become_69 rfl ?_
    refine r_bipush (v := 16) dX1_become_70 rfl ?_
    obtain ⟨c14, h⟩ := g_ite h
    have hE0 := c14
    refine r_copy (S' := sF S12 7 (va_cpy (gA S12 88) (gA S12 7) 0 0 16)) 88 7 (ce_88 D dy _ hE0) (ce_7 D dy _) rfl rfl (k_sF_7 D dy _ _).1 (k_sF_7 D dy _ _).2 (by decide) (by decide) (by decide) (by decide) (by decide) q_1274 q_957 q_956 q_160 ⟨Nat.le_of_ble_eq_true rfl, by decide +kernel⟩ dX1_become_72 ?_
    generalize sF S12 7 (va_cpy (gA S12 88) (gA S12 7) 0 0 16) = S15 at h ⊢
    replace h := g_let h
    refine r_aload_n 0 dX1_become_75 rfl rfl ?_
    refine r_aload_n 1 dX1_become_76 rfl rfl ?_
    obtain ⟨c16, h⟩ := g_ite h
    refine gf_83_5 c16 q_211 dX1_become_77 ?_
    refine pf_2_5 q_211 dX1_become_80 ?_
    generalize sI S15 1 (gI S15 56) = S17 at h ⊢
    replace h := g_let h
    exact r_vret rfl dX1_become_83 ⟨rfl, rfl, Option.some.inj h⟩
theorem ok_X1_become_a83 {D : k_D} {dy : Nat → Nat} {S : St} {out : St} (h : f_X1_become_a83 S = some out) : Sp yX1_become cX1_become 2 none (k_rm 1) D dy S [.ref (D.2.2 2), .ref (dy 2)] (k_Pv dy out) := Sp.of (by decide +kernel) (Nat.le_of_ble_eq_true rfl) (w_X1_become_a83_0 S out h)
noncomputable def f_X10_become_a81_44 : Nat → Int32 → St → Option (St)
  | 0, _, _ => none
  | n + 1, x2, S => if (6 : Int32) ≤ x2 then if ¬ gR S 3 0 = 0 then k_let (sI S 3 (gI S 58)) fun S2 => if ¬ gR S2 3 0 = 0 then k_let (sI S2 4 (gI S2 59)) fun S4 => if ¬ gR S4 3 0 = 0 then if ¬ gR S4 3 0 = 0 then k_let (sF S4 9 (va_cpy (gA S4 90) (gA S4 9) 0 0 8)) fun S7 => if ¬ gR S7 3 0 = 0 then if ¬ gR S7 3 0 = 0 then k_let (sF S7 10 (va_cpy (gA S7 91) (gA S7 10) 0 0 8)) fun S10 => if ¬ gR S10 3 0 = 0 then k_let (sI S10 5 (gI S10 60)) fun S12 => if ¬ gR S12 3 0 = 0 then if ¬ gR S12 3 0 = 0 then k_let (sF S12 11 (va_cpy (gA S12 92) (gA S12 11) 0 0 10)) fun S15 => if ¬ gR S15 3 0 = 0 then if ¬ gR S15 3 0 = 0 then k_let (sF S15 12 (va_cpy (gA S15 93) (gA S15 12) 0 0 10)) fun S18 => if ¬ gR S18 3 0 = 0 then k_let (sI S18 6 (gI S18 61)) fun S20 => if ¬ gR S20 3 0 = 0 then if ¬ gR S20 3 0 = 0 then k_let (sF S20 13 (va_cpy (gA S20 94) (gA S20 13) 0 0 12)) fun S23 => if ¬ gR S23 3 0 = 0 then if ¬ gR S23 3 0 = 0 then k_let (sF S23 14 (va_cpy (gA S23 95) (gA S23 14) 0 0 12)) fun S26 => if ¬ gR S26 3 0 = 0 then k_let (sI S26 7 (gI S26 62)) fun S28 => some S28 else none else none else none else none else none else none else none else none else none else none else none else none else none else none else none else none else none else if ¬ gR S 3 0 = 0 then if ¬ gR S 3 0 = 0 then if k_b x2 6 = true then if gR S 1 x2.toNatClampNeg = 0 then if k_b x2 6 = true then k_let (sR S 0 x2.toNatClampNeg 0) fun S33 => f_X10_become_a81_44 n (x2 + (1 : Int32)) S33 else none else (k_code S (gR S 1 x2.toNatClampNeg - 1)).bind fun a34 => if k_b x2 6 = true then k_let (sR S 0 x2.toNatClampNeg ((gR S 1 x2.toNatClampNeg - 1) + 1)) fun S36 => f_X10_become_a81_44 n (x2 + (1 : Int32)) S36 else none else none else none else none
noncomputable def f_X10_become_a81 (S : St) : Option (St) := if ¬ gR S 3 0 = 0 then if ¬ gR S 3 0 = 0 then k_let (sF S 1 (va_cpy (gA S 82) (gA S 1) 0 0 6)) fun S3 => if ¬ gR S3 3 0 = 0 then k_let (sI S3 0 (gI S3 55)) fun S5 => if ¬ gR S5 3 0 = 0 then (f_X1_become_a83 S5).bind fun q31 => if ¬ gR q31 3 0 = 0 then k_let (sI q31 2 (gI q31 57)) fun S8 => f_X10_become_a81_44 FU (0 : Int32) S8 else none else none else none else none else none
set_option maxRecDepth 100000 in
set_option maxHeartbeats 4000000 in
theorem w_X10_become_a81_44 {D : k_D} {dy : Nat → Nat} : ∀ (n : Nat) (x2 : Int32) (S : St) (out : St), f_X10_become_a81_44 n x2 S = some out → Rn yX10_become cX10_become 3 none (k_rm 2) 0 0 D dy S (k_Pv dy out) 44 [(0, .ref (D.2.2 0)), (1, .ref (dy 0)), (2, .int x2)] [] := by
  intro n
  induction n with
  | zero => intro x2 S out h; cases h
  | succ n ih =>
    intro x2 S out h
    rw [f_X10_become_a81_44] at h
    refine r_iload_n 2 dX10_become_44 rfl rfl ?_
    refine r_bipush (v := 6) dX10_become_45 rfl ?_
    refine r_icmp_ge (t := 68) dX10_become_47 (by decide) (fun c => ?_) (fun c => ?_)
    · rw [if_pos c] at h
      refine r_aload_n 0 dX10_become_68 rfl rfl ?_
      refine r_aload_n 1 dX10_become_69 rfl rfl ?_
      obtain ⟨c1, h⟩ := g_ite h
      refine gf_81_5 c1 q_253 dX10_become_70 ?_
      refine pf_0_5 q_253 dX10_become_73 ?_
      generalize sI S 3 (gI S 58) = S2 at h ⊢
      replace h := g_let h
      refine r_aload_n 0 dX10_become_76 rfl rfl ?_
      refine r_aload_n 1 dX10_become_77 rfl rfl ?_
      obtain ⟨c3, h⟩ := g_ite h
      refine gf_81_6 c3 q_255 dX10_become_78 ?_
      refine pf_0_6 q_255 dX10_become_81 ?_
      generalize sI S2 4 (gI S2 59) = S4 at h ⊢
      replace h := g_let h
      refine r_aload_n 1 dX10_become_84 rfl rfl ?_
      obtain ⟨c5, h⟩ := g_ite h
      refine gf_81_7 c5 q_257 dX10_become_85 ?_
      refine r_iconst (v := 0) dX10_become_88 rfl ?_
      refine r_aload_n 0 dX10_become_89 rfl rfl ?_
      refine gf_0_7 q_257 dX10_become_90 ?_
      refine r_iconst (v := 0) dX10_become_93 rfl ?_
      refine r_bipush (v := 8) dX10_become_94 rfl ?_
      obtain ⟨c6, h⟩ := g_ite h
      have hE0 := c6
      refine r_copy (S' := sF S4 9 (va_cpy (gA S4 90) (gA S4 9) 0 0 8)) 90 9 (ce_90 D dy _ hE0) (ce_9 D dy _) rfl rfl (k_sF_9 D dy _ _).1 (k_sF_9 D dy _ _).2 (by decide) (by decide) (by decide) (by decide) (by decide) q_1269 q_957 q_956 q_160 ⟨Nat.le_of_ble_eq_true rfl, by decide +kernel⟩ dX10_become_96 ?_
      generalize sF S4 9 (va_cpy (gA S4 90) (gA S4 9) 0 0 8) = S7 at h ⊢
      replace h := g_let h
      refine r_aload_n 1 dX10_become_99 rfl rfl ?_
      obtain ⟨c8, h⟩ := g_ite h
      refine gf_81_8 c8 q_259 dX10_become_100 ?_
      refine r_iconst (v := 0) dX10_become_103 rfl ?_
      refine r_aload_n 0 dX10_become_104 rfl rfl ?_
      refine gf_0_8 q_259 dX10_become_105 ?_
      refine r_iconst (v := 0) dX10_become_108 rfl ?_
      refine r_bipush (v := 8) dX10_become_109 rfl ?_
      obtain ⟨c9, h⟩ := g_ite h
      have hE0 := c9
      refine r_copy (S' := sF S7 10 (va_cpy (gA S7 91) (gA S7 10) 0 0 8)) 91 10 (ce_91 D dy _ hE0) (ce_10 D dy _) rfl rfl (k_sF_10 D dy _ _).1 (k_sF_10 D dy _ _).2 (by decide) (by decide) (by decide) (by decide) (by decide) q_1269 q_957 q_956 q_160 ⟨Nat.le_of_ble_eq_true rfl, by decide +kernel⟩ dX10_become_111 ?_
      generalize sF S7 10 (va_cpy (gA S7 91) (gA S7 10) 0 0 8) = S10 at h ⊢
      replace h := g_let h
      refine r_aload_n 0 dX10_become_114 rfl rfl ?_
      refine r_aload_n 1 dX10_become_115 rfl rfl ?_
      obtain ⟨c11, h⟩ := g_ite h
      refine gf_81_9 c11 q_261 dX10_become_116 ?_
      refine pf_0_9 q_261 dX10_become_119 ?_
      generalize sI S10 5 (gI S10 60) = S12 at h ⊢
      replace h := g_let h
      refine r_aload_n 1 dX10_become_122 rfl rfl ?_
      obtain ⟨c13, h⟩ := g_ite h
      refine gf_81_10 c13 q_264 dX10_become_123 ?_
      refine r_iconst (v := 0) dX10_become_126 rfl ?_
      refine r_aload_n 0 dX10_become_127 rfl rfl ?_
      refine gf_0_10 q_264 dX10_become_128 ?_
      refine r_iconst (v := 0) dX10_become_131 rfl ?_
      refine r_bipush (v := 10) dX10_become_132 rfl ?_
      obtain ⟨c14, h⟩ := g_ite h
      have hE0 := c14
      refine r_copy (S' := sF S12 11 (va_cpy (gA S12 92) (gA S12 11) 0 0 10)) 92 11 (ce_92 D dy _ hE0) (ce_11 D dy _) rfl rfl (k_sF_11 D dy _ _).1 (k_sF_11 D dy _ _).2 (by decide) (by decide) (by decide) (by decide) (by decide) q_1269 q_957 q_956 q_160 ⟨Nat.le_of_ble_eq_true rfl, by decide +kernel⟩ dX10_become_134 ?_
      generalize sF S12 11 (va_cpy (gA S12 92) (gA S12 11) 0 0 10) = S15 at h ⊢
      replace h := g_let h
      refine r_aload_n 1 dX10_become_137 rfl rfl ?_
      obtain ⟨c16, h⟩ := g_ite h
      refine gf_81_11 c16 q_266 dX10_become_138 ?_
      refine r_iconst (v := 0) dX10_become_141 rfl ?_
      refine r_aload_n 0 dX10_become_142 rfl rfl ?_
      refine gf_0_11 q_266 dX10_become_143 ?_
      refine r_iconst (v := 0) dX10_become_146 rfl ?_
      refine r_bipush (v := 10) dX10_become_147 rfl ?_
      obtain ⟨c17, h⟩ := g_ite h
      have hE0 := c17
      refine r_copy (S' := sF S15 12 (va_cpy (gA S15 93) (gA S15 12) 0 0 10)) 93 12 (ce_93 D dy _ hE0) (ce_12 D dy _) rfl rfl (k_sF_12 D dy _ _).1 (k_sF_12 D dy _ _).2 (by decide) (by decide) (by decide) (by decide) (by decide) q_1269 q_957 q_956 q_160 ⟨Nat.le_of_ble_eq_true rfl, by decide +kernel⟩ dX10_become_149 ?_
      generalize sF S15 12 (va_cpy (gA S15 93) (gA S15 12) 0 0 10) = S18 at h ⊢
      replace h := g_let h
      refine r_aload_n 0 dX10_become_152 rfl rfl ?_
      refine r_aload_n 1 dX10_become_153 rfl rfl ?_
      obtain ⟨c19, h⟩ := g_ite h
      refine gf_81_12 c19 q_268 dX10_become_154 ?_
      refine pf_0_12 q_268 dX10_become_157 ?_
      generalize sI S18 6 (gI S18 61) = S20 at h ⊢
      replace h := g_let h
      refine r_aload_n 1 dX10_become_160 rfl rfl ?_
      obtain ⟨c21, h⟩ := g_ite h
      refine gf_81_13 c21 q_271 dX10_become_161 ?_
      refine r_iconst (v := 0) dX10_become_164 rfl ?_
      refine r_aload_n 0 dX10_become_165 rfl rfl ?_
      refine gf_0_13 q_271 dX10_become_166 ?_
      refine r_iconst (v := 0) dX10_become_169 rfl ?_
      refine r_bipush (v := 12) dX10_become_170 rfl ?_
      obtain ⟨c22, h⟩ := g_ite h
      have hE0 := c22
      refine r_copy (S' := sF S20 13 (va_cpy (gA S20 94) (gA S20 13) 0 0 12)) 94 13 (ce_94 D dy _ hE0) (ce_13 D dy _) rfl rfl (k_sF_13 D dy _ _).1 (k_sF_13 D dy _ _).2 (by decide) (by decide) (by decide) (by decide) (by decide) q_1269 q_957 q_956 q_160 ⟨Nat.le_of_ble_eq_true rfl, by decide +kernel⟩ dX10_become_172 ?_
      generalize sF S20 13 (va_cpy (gA S20 94) (gA S20 13) 0 0 12) = S23 at h ⊢
      replace h := g_let h
      refine r_aload_n 1 dX10_become_175 rfl rfl ?_
      obtain ⟨c24, h⟩ := g_ite h
      refine gf_81_14 c24 q_273 dX10_become_176 ?_
      refine r_iconst (v := 0) dX10_become_179 rfl ?_
      refine r_aload_n 0 dX10_become_180 rfl rfl ?_
      refine gf_0_14 q_273 dX10_become_181 ?_
      refine r_iconst (v := 0) dX10_become_184 rfl ?_
      refine r_bipush (v := 12) dX10_become_185 rfl ?_
      obtain ⟨c25, h⟩ := g_ite h
      have hE0 := c25
      refine r_copy (S' := sF S23 14 (va_cpy (gA S23 95) (gA S23 14) 0 0 12)) 95 14 (ce_95 D dy _ hE0) (ce_14 D dy _) rfl rfl (k_sF_14 D dy _ _).1 (k_sF_14 D dy _ _).2 (by decide) (by decide) (by decide) (by decide) (by decide) q_1269 q_957 q_956 q_160 ⟨Nat.le_of_ble_eq_true rfl, by decide +kernel⟩ dX10_become_187 ?_
      generalize sF S23 14 (va_cpy (gA S23 95) (gA S23 14) 0 0 12) = S26 at h ⊢
      replace h := g_let h
      refine r_aload_n 0 dX10_become_190 rfl rfl ?_
      refine r_aload_n 1 dX10_become_191 rfl rfl ?_
      obtain ⟨c27, h⟩ := g_ite h
      refine gf_81_15 c27 q_275 dX10_become_192 ?_
      refine pf_0_15 q_275 dX10_become_195 ?_
      generalize sI S26 7 (gI S26 62) = S28 at h ⊢
      replace h := g_let h
      exact r_vret rfl dX10_become_198 ⟨rfl, rfl, Option.some.inj h⟩
    · rw [if_neg c] at h
      refine r_aload_n 0 dX10_become_50 rfl rfl ?_
      refine gf_0_4 q_252 dX10_become_51 ?_
      refine r_iload_n 2 dX10_become_54 rfl rfl ?_
      refine r_aload_n 1 dX10_become_55 rfl rfl ?_
      obtain ⟨c29, h⟩ := g_ite h
      refine gf_81_4 c29 q_252 dX10_become_56 ?_
      refine r_iload_n 2 dX10_become_59 rfl rfl ?_
      obtain ⟨c30, h⟩ := g_ite h
      obtain ⟨c31, h⟩ := g_ite h
      refine r_aaldL_1 c30 (k_b_in c31) dX10_become_60 (fun c => ?_) (fun c => ?_)
      · rw [if_pos c] at h
        obtain ⟨c32, h⟩ := g_ite h
        refine r_aastLN_0 (k_b_in c32) dX10_become_61 ?_
        generalize sR S 0 x2.toNatClampNeg 0 = S33 at h ⊢
        replace h := g_let h
        refine r_iinc (q := 2) (v := x2 + (1 : Int32)) dX10_become_62 rfl rfl (by decide) rfl ?_
        refine r_goto (t := 44) dX10_become_65 (by decide) ?_
        refine r_sub [1, 2, 0] rfl ?_
        exact ih _ _ _ h
      · rw [if_neg c] at h
        obtain ⟨a34, ha34, h⟩ := g_bind h
        obtain ⟨c35, h⟩ := g_ite h
        refine r_aastL ha34 (k_b_in c35) dX10_become_61 ?_
        generalize sR S 0 x2.toNatClampNeg ((gR S 1 x2.toNatClampNeg - 1) + 1) = S36 at h ⊢
        replace h := g_let h
        refine r_iinc (q := 2) (v := x2 + (1 : Int32)) dX10_become_62 rfl rfl (by decide) rfl ?_
        refine r_goto (t := 44) dX10_become_65 (by decide) ?_
        refine r_sub [1, 2, 0] rfl ?_
        exact ih _ _ _ h
set_option maxRecDepth 100000 in
set_option maxHeartbeats 4000000 in
theorem w_X10_become_a81_0 {D : k_D} {dy : Nat → Nat} (S : St) (out : St) (h : f_X10_become_a81 S = some out) : Rn yX10_become cX10_become 3 none (k_rm 2) 0 0 D dy S (k_Pv dy out) 0 [(0, .ref (D.2.2 0)), (1, .ref (dy 0))] [] := by
    unfold f_X10_become_a81 at h
    refine r_aload_n 1 dX10_become_0 rfl rfl ?_
    obtain ⟨c1, h⟩ := g_ite h
    refine gf_81_0 c1 q_236 dX10_become_1 ?_
    refine r_iconst (v := 0) dX10_become_4 rfl ?_
    refine r_aload_n 0 dX10_become_5 rfl rfl ?_
    refine gf_0_0 q_236 dX10_become_6 ?_
    refine r_iconst (v := 0) dX10_become_9 rfl ?_
    refine r_bipush (v := 6) dX10_become_10 rfl ?_
    obtain ⟨c2, h⟩ := g_ite h
    have hE0 := c2
    refine r_copy (S' := sF S 1 (va_cpy (gA S 82) (gA S 1) 0 0 6)) 82 1 (ce_82 D dy _ hE0) (ce_1 D dy _) rfl rfl (k_sF_1 D dy _ _).1 (k_sF_1 D dy _ _).2 (by decide) (by decide) (by decide) (by decide) (by decide) q_1269 q_957 q_956 q_160 ⟨Nat.le_of_ble_eq_true rfl, by decide +kernel⟩ dX10_become_12 ?_
    generalize sF S 1 (va_cpy (gA S 82) (gA S 1) 0 0 6) = S3 at h ⊢
    replace h := g_let h
    refine r_aload_n 0 dX10_become_15 rfl rfl ?_
    refine r_aload_n 1 dX10_become_16 rfl rfl ?_
    obtain ⟨c4, h⟩ := g_ite h
    refine gf_81_1 c4 q_238 dX10_become_17 ?_
    refine pf_0_1 q_238 dX10_become_20 ?_
    generalize sI S3 0 (gI S3 55) = S5 at h ⊢
    replace h := g_let h
    refine r_aload_n 0 dX10_become_23 rfl rfl ?_
    refine gf_0_2 q_241 dX10_become_24 ?_
    refine r_aload_n 1 dX10_become_27 rfl rfl ?_
    obtain ⟨c6, h⟩ := g_ite h
    refine gf_81_2 c6 q_241 dX10_become_28 ?_
    obtain ⟨q31, hq31, h⟩ := g_bind h
    refine r_callVNv [.ref (dy 2)] [] q31 (ok_X1_become_a83 hq31) q_1270 q_1272 q_86 q_1273 q_143 hd_X1_become (ce_2 D dy _) kc1.1 rfl ⟨Nat.le_of_ble_eq_true rfl, Nat.le_of_ble_eq_true rfl⟩ rfl rfl (Nat.le_of_ble_eq_true rfl) dX10_become_31 ?_
    refine r_aload_n 0 dX10_become_34 rfl rfl ?_
    refine r_aload_n 1 dX10_become_35 rfl rfl ?_
    obtain ⟨c7, h⟩ := g_ite h
    refine gf_81_3 c7 q_249 dX10_become_36 ?_
    refine pf_0_3 q_249 dX10_become_39 ?_
    generalize sI q31 2 (gI q31 57) = S8 at h ⊢
    replace h := g_let h
    refine r_iconst (v := 0) dX10_become_42 rfl ?_
    refine r_istore_n dX10_become_43 rfl (by decide) rfl ?_
    refine r_sub [1, 2, 0] rfl ?_
    exact w_X10_become_a81_44 _ _ _ _ h
theorem ok_X10_become_a81 {D : k_D} {dy : Nat → Nat} {S : St} {out : St} (h : f_X10_become_a81 S = some out) : Sp yX10_become cX10_become 3 none (k_rm 2) D dy S [.ref (D.2.2 0), .ref (dy 0)] (k_Pv dy out) := Sp.of (by decide +kernel) (Nat.le_of_ble_eq_true rfl) (w_X10_become_a81_0 S out h)
noncomputable def f_X1_become_a98 (S : St) : Option (St) := if ¬ gR S 3 1 = 0 then if ¬ gR S 3 1 = 0 then k_let (sF S 3 (va_cpy (gA S 99) (gA S 3) 0 0 16)) fun S3 => if ¬ gR S3 3 1 = 0 then if ¬ gR S3 3 1 = 0 then k_let (sF S3 4 (va_cpy (gA S3 100) (gA S3 4) 0 0 16)) fun S6 => if ¬ gR S6 3 1 = 0 then if ¬ gR S6 3 1 = 0 then k_let (sF S6 5 (va_cpy (gA S6 101) (gA S6 5) 0 0 16)) fun S9 => if ¬ gR S9 3 1 = 0 then if ¬ gR S9 3 1 = 0 then k_let (sF S9 6 (va_cpy (gA S9 102) (gA S9 6) 0 0 16)) fun S12 => if ¬ gR S12 3 1 = 0 then if ¬ gR S12 3 1 = 0 then k_let (sF S12 7 (va_cpy (gA S12 103) (gA S12 7) 0 0 16)) fun S15 => if ¬ gR S15 3 1 = 0 then k_let (sI S15 1 (gI S15 64)) fun S17 => some S17 else none else none else none else none else none else none else none else none else none else none else none
set_option maxRecDepth 100000 in
set_option maxHeartbeats 4000000 in
theorem w_X1_become_a98_0 {D : k_D} {dy : Nat → Nat} (S : St) (out : St) (h : f_X1_become_a98 S = some out) : Rn yX1_become cX1_become 2 none (k_rm 1) 0 0 D dy S (k_Pv dy out) 0 [(0, .ref (D.2.2 2)), (1, .ref (dy 17))] [] := by
    unfold f_X1_become_a98 at h
    refine r_aload_n 1 dX1_become_0 rfl rfl ?_
    obtain ⟨c1, h⟩ := g_ite h
    refine gf_98_0 c1 q_182 dX1_become_1 ?_
    refine r_iconst (v := 0) dX1_become_4 rfl ?_
    refine r_aload_n 0 dX1_become_5 rfl rfl ?_
    refine gf_2_0 q_182 dX1_become_6 ?_
    refine r_iconst (v := 0) dX1_become_9 rfl ?_
    refine r_bipush (v := 16) dX1_become_10 rfl ?_
    obtain ⟨c2, h⟩ := g_ite h
    have hE1 := c2
    refine r_copy (S' := sF S 3 (va_cpy (gA S 99) (gA S 3) 0 0 16)) 99 3 (ce_99 D dy _ hE1) (ce_3 D dy _) rfl rfl (k_sF_3 D dy _ _).1 (k_sF_3 D dy _ _).2 (by decide) (by decide) (by decide) (by decide) (by decide) q_1274 q_957 q_956 q_160 ⟨Nat.le_of_ble_eq_true rfl, by decide +kernel⟩ dX1_become_12 ?_
    generalize sF S 3 (va_cpy (gA S 99) (gA S 3) 0 0 16) = S3 at h ⊢
    replace h := g_let h
    refine r_aload_n 1 dX1_become_15 rfl rfl ?_
    obtain ⟨c4, h⟩ := g_ite h
    refine gf_98_1 c4 q_188 dX1_become_16 ?_
    refine r_iconst (v := 0) dX1_become_19 rfl ?_
    refine r_aload_n 0 dX1_become_20 rfl rfl ?_
    refine gf_2_1 q_188 dX1_become_21 ?_
    refine r_iconst (v := 0) dX1_become_24 rfl ?_
    refine r_bipush (v := 16) dX1_become_25 rfl ?_
    obtain ⟨c5, h⟩ := g_ite h
    have hE1 := c5
    refine r_copy (S' := sF S3 4 (va_cpy (gA S3 100) (gA S3 4) 0 0 16)) 100 4 (ce_100 D dy _ hE1) (ce_4 D dy _) rfl rfl (k_sF_4 D dy _ _).1 (k_sF_4 D dy _ _).2 (by decide) (by decide) (by decide) (by decide) (by decide) q_1274 q_957 q_956 q_160 ⟨Nat.le_of_ble_eq_true rfl, by decide +kernel⟩ dX1_become_27 ?_
    generalize sF S3 4 (va_cpy (gA S3 100) (gA S3 4) 0 0 16) = S6 at h ⊢
    replace h := g_let h
    refine r_aload_n 1 dX1_become_30 rfl rfl ?_
    obtain ⟨c7, h⟩ := g_ite h
    refine gf_98_2 c7 q_195 dX1_become_31 ?_
    refine r_iconst (v := 0) dX1_become_34 rfl ?_
    refine r_aload_n 0 dX1_become_35 rfl rfl ?_
    refine gf_2_2 q_195 dX1_become_36 ?_
    refine r_iconst (v := 0) dX1_become_39 rfl ?_
    refine r_bipush (v := 16) dX1_become_40 rfl ?_
    obtain ⟨c8, h⟩ := g_ite h
    have hE1 := c8
    refine r_copy (S' := sF S6 5 (va_cpy (gA S6 101) (gA S6 5) 0 0 16)) 101 5 (ce_101 D dy _ hE1) (ce_5 D dy _) rfl rfl (k_sF_5 D dy _ _).1 (k_sF_5 D dy _ _).2 (by decide) (by decide) (by decide) (by decide) (by decide) q_1274 q_957 q_956 q_160 ⟨Nat.le_of_ble_eq_true rfl, by decide +kernel⟩ dX1_become_42 ?_
    generalize sF S6 5 (va_cpy (gA S6 101) (gA S6 5) 0 0 16) = S9 at h ⊢
    replace h := g_let h
    refine r_aload_n 1 dX1_become_45 rfl rfl ?_
    obtain ⟨c10, h⟩ := g_ite h
    refine gf_98_3 c10 q_201 dX1_become_46 ?_
    refine r_iconst (v := 0) dX1_become_49 rfl ?_
    refine r_aload_n 0 dX1_become_50 rfl rfl ?_
    refine gf_2_3 q_201 dX1_become_51 ?_
    refine r_iconst (v := 0) dX1_become_54 rfl ?_
    refine r_bipush (v := 16) dX1_become_55 rfl ?_
    obtain ⟨c11, h⟩ := g_ite h
    have hE1 := c11
    refine r_copy (S' := sF S9 6 (va_cpy (gA S9 102) (gA S9 6) 0 0 16)) 102 6 (ce_102 D dy _ hE1) (ce_6 D dy _) rfl rfl (k_sF_6 D dy _ _).1 (k_sF_6 D dy _ _).2 (by decide) (by decide) (by decide) (by decide) (by decide) q_1274 q_957 q_956 q_160 ⟨Nat.le_of_ble_eq_true rfl, by decide +kernel⟩ dX1_become_57 ?_
    generalize sF S9 6 (va_cpy (gA S9 102) (gA S9 6) 0 0 16) = S12 at h ⊢
    replace h := g_let h
    refine r_aload_n 1 dX1_become_60 rfl rfl ?_
    obtain ⟨c13, h⟩ := g_ite h
    refine gf_98_4 c13 q_209 dX1_become_61 ?_
    refine r_iconst (v := 0) dX1_become_64 rfl ?_
    refine r_aload_n 0 dX1_become_65 rfl rfl ?_
    refine gf_2_4 q_209 dX1_become_66 ?_
    refine r_iconst (v := 0) dX1_become_69 rfl ?_
    refine r_bipush (v := 16) dX1_become_70 rfl ?_
    obtain ⟨c14, h⟩ := g_ite h
    have hE1 := c14
    refine r_copy (S' := sF S12 7 (va_cpy (gA S12 103) (gA S12 7) 0 0 16)) 103 7 (ce_103 D dy _ hE1) (ce_7 D dy _) rfl rfl (k_sF_7 D dy _ _).1 (k_sF_7 D dy _ _).2 (by decide) (by decide) (by decide) (by decide) (by decide) q_1274 q_957 q_956 q_160 ⟨Nat.le_of_ble_eq_true rfl, by decide +kernel⟩ dX1_become_72 ?_
    generalize sF S12 7 (va_cpy (gA S12 103) (gA S12 7) 0 0 16) = S15 at h ⊢
    replace h := g_let h
    refine r_aload_n 0 dX1_become_75 rfl rfl ?_
    refine r_aload_n 1 dX1_become_76 rfl rfl ?_
    obtain ⟨c16, h⟩ := g_ite h
    refine gf_98_5 c16 q_211 dX1_become_77 ?_
    refine pf_2_5 q_211 dX1_become_80 ?_
    generalize sI S15 1 (gI S15 64) = S17 at h ⊢
    replace h := g_let h
    exact r_vret rfl dX1_become_83 ⟨rfl, rfl, Option.some.inj h⟩
theorem ok_X1_become_a98 {D : k_D} {dy : Nat → Nat} {S : St} {out : St} (h : f_X1_become_a98 S = some out) : Sp yX1_become cX1_become 2 none (k_rm 1) D dy S [.ref (D.2.2 2), .ref (dy 17)] (k_Pv dy out) := Sp.of (by decide +kernel) (Nat.le_of_ble_eq_true rfl) (w_X1_become_a98_0 S out h)
noncomputable def f_X10_become_a96_44 : Nat → Int32 → St → Option (St)
  | 0, _, _ => none
  | n + 1, x2, S => if (6 : Int32) ≤ x2 then if ¬ gR S 3 1 = 0 then k_let (sI S 3 (gI S 66)) fun S2 => if ¬ gR S2 3 1 = 0 then k_let (sI S2 4 (gI S2 67)) fun S4 => if ¬ gR S4 3 1 = 0 then if ¬ gR S4 3 1 = 0 then k_let (sF S4 9 (va_cpy (gA S4 105) (gA S4 9) 0 0 8)) fun S7 => if ¬ gR S7 3 1 = 0 then if ¬ gR S7 3 1 = 0 then k_let (sF S7 10 (va_cpy (gA S7 106) (gA S7 10) 0 0 8)) fun S10 => if ¬ gR S10 3 1 = 0 then k_let (sI S10 5 (gI S10 68)) fun S12 => if ¬ gR S12 3 1 = 0 then if ¬ gR S12 3 1 = 0 then k_let (sF S12 11 (va_cpy (gA S12 107) (gA S12 11) 0 0 10)) fun S15 => if ¬ gR S15 3 1 = 0 then if ¬ gR S15 3 1 = 0 then k_let (sF S15 12 (va_cpy (gA S15 108) (gA S15 12) 0 0 10)) fun S18 => if ¬ gR S18 3 1 = 0 then k_let (sI S18 6 (gI S18 69)) fun S20 => if ¬ gR S20 3 1 = 0 then if ¬ gR S20 3 1 = 0 then k_let (sF S20 13 (va_cpy (gA S20 109) (gA S20 13) 0 0 12)) fun S23 => if ¬ gR S23 3 1 = 0 then if ¬ gR S23 3 1 = 0 then k_let (sF S23 14 (va_cpy (gA S23 110) (gA S23 14) 0 0 12)) fun S26 => if ¬ gR S26 3 1 = 0 then k_let (sI S26 7 (gI S26 70)) fun S28 => some S28 else none else none else none else none else none else none else none else none else none else none else none else none else none else none else none else none else none else if ¬ gR S 3 1 = 0 then if ¬ gR S 3 1 = 0 then if k_b x2 6 = true then if gR S 2 x2.toNatClampNeg = 0 then if k_b x2 6 = true then k_let (sR S 0 x2.toNatClampNeg 0) fun S33 => f_X10_become_a96_44 n (x2 + (1 : Int32)) S33 else none else (k_code S (gR S 2 x2.toNatClampNeg - 1)).bind fun a34 => if k_b x2 6 = true then k_let (sR S 0 x2.toNatClampNeg ((gR S 2 x2.toNatClampNeg - 1) + 1)) fun S36 => f_X10_become_a96_44 n (x2 + (1 : Int32)) S36 else none else none else none else none
noncomputable def f_X10_become_a96 (S : St) : Option (St) := if ¬ gR S 3 1 = 0 then if ¬ gR S 3 1 = 0 then k_let (sF S 1 (va_cpy (gA S 97) (gA S 1) 0 0 6)) fun S3 => if ¬ gR S3 3 1 = 0 then k_let (sI S3 0 (gI S3 63)) fun S5 => if ¬ gR S5 3 1 = 0 then (f_X1_become_a98 S5).bind fun q31 => if ¬ gR q31 3 1 = 0 then k_let (sI q31 2 (gI q31 65)) fun S8 => f_X10_become_a96_44 FU (0 : Int32) S8 else none else none else none else none else none
set_option maxRecDepth 100000 in
set_option maxHeartbeats 4000000 in
theorem w_X10_become_a96_44 {D : k_D} {dy : Nat → Nat} : ∀ (n : Nat) (x2 : Int32) (S : St) (out : St), f_X10_become_a96_44 n x2 S = some out → Rn yX10_become cX10_become 3 none (k_rm 2) 0 0 D dy S (k_Pv dy out) 44 [(0, .ref (D.2.2 0)), (1, .ref (dy 15)), (2, .int x2)] [] := by
  intro n
  induction n with
  | zero => intro x2 S out h; cases h
  | succ n ih =>
    intro x2 S out h
    rw [f_X10_become_a96_44] at h
    refine r_iload_n 2 dX10_become_44 rfl rfl ?_
    refine r_bipush (v := 6) dX10_become_45 rfl ?_
    refine r_icmp_ge (t := 68) dX10_become_47 (by decide) (fun c => ?_) (fun c => ?_)
    · rw [if_pos c] at h
      refine r_aload_n 0 dX10_become_68 rfl rfl ?_
      refine r_aload_n 1 dX10_become_69 rfl rfl ?_
      obtain ⟨c1, h⟩ := g_ite h
      refine gf_96_5 c1 q_253 dX10_become_70 ?_
      refine pf_0_5 q_253 dX10_become_73 ?_
      generalize sI S 3 (gI S 66) = S2 at h ⊢
      replace h := g_let h
      refine r_aload_n 0 dX10_become_76 rfl rfl ?_
      refine r_aload_n 1 dX10_become_77 rfl rfl ?_
      obtain ⟨c3, h⟩ := g_ite h
      refine gf_96_6 c3 q_255 dX10_become_78 ?_
      refine pf_0_6 q_255 dX10_become_81 ?_
      generalize sI S2 4 (gI S2 67) = S4 at h ⊢
      replace h := g_let h
      refine r_aload_n 1 dX10_become_84 rfl rfl ?_
      obtain ⟨c5, h⟩ := g_ite h
      refine gf_96_7 c5 q_257 dX10_become_85 ?_
      refine r_iconst (v := 0) dX10_become_88 rfl ?_
      refine r_aload_n 0 dX10_become_89 rfl rfl ?_
      refine gf_0_7 q_257 dX10_become_90 ?_
      refine r_iconst (v := 0) dX10_become_93 rfl ?_
      refine r_bipush (v := 8) dX10_become_94 rfl ?_
      obtain ⟨c6, h⟩ := g_ite h
      have hE1 := c6
      refine r_copy (S' := sF S4 9 (va_cpy (gA S4 105) (gA S4 9) 0 0 8)) 105 9 (ce_105 D dy _ hE1) (ce_9 D dy _) rfl rfl (k_sF_9 D dy _ _).1 (k_sF_9 D dy _ _).2 (by decide) (by decide) (by decide) (by decide) (by decide) q_1269 q_957 q_956 q_160 ⟨Nat.le_of_ble_eq_true rfl, by decide +kernel⟩ dX10_become_96 ?_
      generalize sF S4 9 (va_cpy (gA S4 105) (gA S4 9) 0 0 8) = S7 at h ⊢
      replace h := g_let h
      refine r_aload_n 1 dX10_become_99 rfl rfl ?_
      obtain ⟨c8, h⟩ := g_ite h
      refine gf_96_8 c8 q_259 dX10_become_100 ?_
      refine r_iconst (v := 0) dX10_become_103 rfl ?_
      refine r_aload_n 0 dX10_become_104 rfl rfl ?_
      refine gf_0_8 q_259 dX10_become_105 ?_
      refine r_iconst (v := 0) dX10_become_108 rfl ?_
      refine r_bipush (v := 8) dX10_become_109 rfl ?_
      obtain ⟨c9, h⟩ := g_ite h
      have hE1 := c9
      refine r_copy (S' := sF S7 10 (va_cpy (gA S7 106) (gA S7 10) 0 0 8)) 106 10 (ce_106 D dy _ hE1) (ce_10 D dy _) rfl rfl (k_sF_10 D dy _ _).1 (k_sF_10 D dy _ _).2 (by decide) (by decide) (by decide) (by decide) (by decide) q_1269 q_957 q_956 q_160 ⟨Nat.le_of_ble_eq_true rfl, by decide +kernel⟩ dX10_become_111 ?_
      generalize sF S7 10 (va_cpy (gA S7 106) (gA S7 10) 0 0 8) = S10 at h ⊢
      replace h := g_let h
      refine r_aload_n 0 dX10_become_114 rfl rfl ?_
      refine r_aload_n 1 dX10_become_115 rfl rfl ?_
      obtain ⟨c11, h⟩ := g_ite h
      refine gf_96_9 c11 q_261 dX10_become_116 ?_
      refine pf_0_9 q_261 dX10_become_119 ?_
      generalize sI S10 5 (gI S10 68) = S12 at h ⊢
      replace h := g_let h
      refine r_aload_n 1 dX10_become_122 rfl rfl ?_
      obtain ⟨c13, h⟩ := g_ite h
      refine gf_96_10 c13 q_264 dX10_become_123 ?_
      refine r_iconst (v := 0) dX10_become_126 rfl ?_
      refine r_aload_n 0 dX10_become_127 rfl rfl ?_
      refine gf_0_10 q_264 dX10_become_128 ?_
      refine r_iconst (v := 0) dX10_become_131 rfl ?_
      refine r_bipush (v := 10) dX10_become_132 rfl ?_
      obtain ⟨c14, h⟩ := g_ite h
      have hE1 := c14
      refine r_copy (S' := sF S12 11 (va_cpy (gA S12 107) (gA S12 11) 0 0 10)) 107 11 (ce_107 D dy _ hE1) (ce_11 D dy _) rfl rfl (k_sF_11 D dy _ _).1 (k_sF_11 D dy _ _).2 (by decide) (by decide) (by decide) (by decide) (by decide) q_1269 q_957 q_956 q_160 ⟨Nat.le_of_ble_eq_true rfl, by decide +kernel⟩ dX10_become_134 ?_
      generalize sF S12 11 (va_cpy (gA S12 107) (gA S12 11) 0 0 10) = S15 at h ⊢
      replace h := g_let h
      refine r_aload_n 1 dX10_become_137 rfl rfl ?_
      obtain ⟨c16, h⟩ := g_ite h
      refine gf_96_11 c16 q_266 dX10_become_138 ?_
      refine r_iconst (v := 0) dX10_become_141 rfl ?_
      refine r_aload_n 0 dX10_become_142 rfl rfl ?_
      refine gf_0_11 q_266 dX10_become_143 ?_
      refine r_iconst (v := 0) dX10_become_146 rfl ?_
      refine r_bipush (v := 10) dX10_become_147 rfl ?_
      obtain ⟨c17, h⟩ := g_ite h
      have hE1 := c17
      refine r_copy (S' := sF S15 12 (va_cpy (gA S15 108) (gA S15 12) 0 0 10)) 108 12 (ce_108 D dy _ hE1) (ce_12 D dy _) rfl rfl (k_sF_12 D dy _ _).1 (k_sF_12 D dy _ _).2 (by decide) (by decide) (by decide) (by decide) (by decide) q_1269 q_957 q_956 q_160 ⟨Nat.le_of_ble_eq_true rfl, by decide +kernel⟩ dX10_become_149 ?_
      generalize sF S15 12 (va_cpy (gA S15 108) (gA S15 12) 0 0 10) = S18 at h ⊢
      replace h := g_let h
      refine r_aload_n 0 dX10_become_152 rfl rfl ?_
      refine r_aload_n 1 dX10_become_153 rfl rfl ?_
      obtain ⟨c19, h⟩ := g_ite h
      refine gf_96_12 c19 q_268 dX10_become_154 ?_
      refine pf_0_12 q_268 dX10_become_157 ?_
      generalize sI S18 6 (gI S18 69) = S20 at h ⊢
      replace h := g_let h
      refine r_aload_n 1 dX10_become_160 rfl rfl ?_
      obtain ⟨c21, h⟩ := g_ite h
      refine gf_96_13 c21 q_271 dX10_become_161 ?_
      refine r_iconst (v := 0) dX10_become_164 rfl ?_
      refine r_aload_n 0 dX10_become_165 rfl rfl ?_
      refine gf_0_13 q_271 dX10_become_166 ?_
      refine r_iconst (v := 0) dX10_become_169 rfl ?_
      refine r_bipush (v := 12) dX10_become_170 rfl ?_
      obtain ⟨c22, h⟩ := g_ite h
      have hE1 := c22
      refine r_copy (S' := sF S20 13 (va_cpy (gA S20 109) (gA S20 13) 0 0 12)) 109 13 (ce_109 D dy _ hE1) (ce_13 D dy _) rfl rfl (k_sF_13 D dy _ _).1 (k_sF_13 D dy _ _).2 (by decide) (by decide) (by decide) (by decide) (by decide) q_1269 q_957 q_956 q_160 ⟨Nat.le_of_ble_eq_true rfl, by decide +kernel⟩ dX10_become_172 ?_
      generalize sF S20 13 (va_cpy (gA S20 109) (gA S20 13) 0 0 12) = S23 at h ⊢
      replace h := g_let h
      refine r_aload_n 1 dX10_become_175 rfl rfl ?_
      obtain ⟨c24, h⟩ := g_ite h
      refine gf_96_14 c24 q_273 dX10_become_176 ?_
      refine r_iconst (v := 0) dX10_become_179 rfl ?_
      refine r_aload_n 0 dX10_become_180 rfl rfl ?_
      refine gf_0_14 q_273 dX10_become_181 ?_
      refine r_iconst (v := 0) dX10_become_184 rfl ?_
      refine r_bipush (v := 12) dX10_become_185 rfl ?_
      obtain ⟨c25, h⟩ := g_ite h
      have hE1 := c25
      refine r_copy (S' := sF S23 14 (va_cpy (gA S23 110) (gA S23 14) 0 0 12)) 110 14 (ce_110 D dy _ hE1) (ce_14 D dy _) rfl rfl (k_sF_14 D dy _ _).1 (k_sF_14 D dy _ _).2 (by decide) (by decide) (by decide) (by decide) (by decide) q_1269 q_957 q_956 q_160 ⟨Nat.le_of_ble_eq_true rfl, by decide +kernel⟩ dX10_become_187 ?_
      generalize sF S23 14 (va_cpy (gA S23 110) (gA S23 14) 0 0 12) = S26 at h ⊢
      replace h := g_let h
      refine r_aload_n 0 dX10_become_190 rfl rfl ?_
      refine r_aload_n 1 dX10_become_191 rfl rfl ?_
      obtain ⟨c27, h⟩ := g_ite h
      refine gf_96_15 c27 q_275 dX10_become_192 ?_
      refine pf_0_15 q_275 dX10_become_195 ?_
      generalize sI S26 7 (gI S26 70) = S28 at h ⊢
      replace h := g_let h
      exact r_vret rfl dX10_become_198 ⟨rfl, rfl, Option.some.inj h⟩
    · rw [if_neg c] at h
      refine r_aload_n 0 dX10_become_50 rfl rfl ?_
      refine gf_0_4 q_252 dX10_become_51 ?_
      refine r_iload_n 2 dX10_become_54 rfl rfl ?_
      refine r_aload_n 1 dX10_become_55 rfl rfl ?_
      obtain ⟨c29, h⟩ := g_ite h
      refine gf_96_4 c29 q_252 dX10_become_56 ?_
      refine r_iload_n 2 dX10_become_59 rfl rfl ?_
      obtain ⟨c30, h⟩ := g_ite h
      obtain ⟨c31, h⟩ := g_ite h
      refine r_aaldL_2 c30 (k_b_in c31) dX10_become_60 (fun c => ?_) (fun c => ?_)
      · rw [if_pos c] at h
        obtain ⟨c32, h⟩ := g_ite h
        refine r_aastLN_0 (k_b_in c32) dX10_become_61 ?_
        generalize sR S 0 x2.toNatClampNeg 0 = S33 at h ⊢
        replace h := g_let h
        refine r_iinc (q := 2) (v := x2 + (1 : Int32)) dX10_become_62 rfl rfl (by decide) rfl ?_
        refine r_goto (t := 44) dX10_become_65 (by decide) ?_
        refine r_sub [1, 2, 0] rfl ?_
        exact ih _ _ _ h
      · rw [if_neg c] at h
        obtain ⟨a34, ha34, h⟩ := g_bind h
        obtain ⟨c35, h⟩ := g_ite h
        refine r_aastL ha34 (k_b_in c35) dX10_become_61 ?_
        generalize sR S 0 x2.toNatClampNeg ((gR S 2 x2.toNatClampNeg - 1) + 1) = S36 at h ⊢
        replace h := g_let h
        refine r_iinc (q := 2) (v := x2 + (1 : Int32)) dX10_become_62 rfl rfl (by decide) rfl ?_
        refine r_goto (t := 44) dX10_become_65 (by decide) ?_
        refine r_sub [1, 2, 0] rfl ?_
        exact ih _ _ _ h
set_option maxRecDepth 100000 in
set_option maxHeartbeats 4000000 in
theorem w_X10_become_a96_0 {D : k_D} {dy : Nat → Nat} (S : St) (out : St) (h : f_X10_become_a96 S = some out) : Rn yX10_become cX10_become 3 none (k_rm 2) 0 0 D dy S (k_Pv dy out) 0 [(0, .ref (D.2.2 0)), (1, .ref (dy 15))] [] := by
    unfold f_X10_become_a96 at h
    refine r_aload_n 1 dX10_become_0 rfl rfl ?_
    obtain ⟨c1, h⟩ := g_ite h
    refine gf_96_0 c1 q_236 dX10_become_1 ?_
    refine r_iconst (v := 0) dX10_become_4 rfl ?_
    refine r_aload_n 0 dX10_become_5 rfl rfl ?_
    refine gf_0_0 q_236 dX10_become_6 ?_
    refine r_iconst (v := 0) dX10_become_9 rfl ?_
    refine r_bipush (v := 6) dX10_become_10 rfl ?_
    obtain ⟨c2, h⟩ := g_ite h
    have hE1 := c2
    refine r_copy (S' := sF S 1 (va_cpy (gA S 97) (gA S 1) 0 0 6)) 97 1 (ce_97 D dy _ hE1) (ce_1 D dy _) rfl rfl (k_sF_1 D dy _ _).1 (k_sF_1 D dy _ _).2 (by decide) (by decide) (by decide) (by decide) (by decide) q_1269 q_957 q_956 q_160 ⟨Nat.le_of_ble_eq_true rfl, by decide +kernel⟩ dX10_become_12 ?_
    generalize sF S 1 (va_cpy (gA S 97) (gA S 1) 0 0 6) = S3 at h ⊢
    replace h := g_let h
    refine r_aload_n 0 dX10_become_15 rfl rfl ?_
    refine r_aload_n 1 dX10_become_16 rfl rfl ?_
    obtain ⟨c4, h⟩ := g_ite h
    refine gf_96_1 c4 q_238 dX10_become_17 ?_
    refine pf_0_1 q_238 dX10_become_20 ?_
    generalize sI S3 0 (gI S3 63) = S5 at h ⊢
    replace h := g_let h
    refine r_aload_n 0 dX10_become_23 rfl rfl ?_
    refine gf_0_2 q_241 dX10_become_24 ?_
    refine r_aload_n 1 dX10_become_27 rfl rfl ?_
    obtain ⟨c6, h⟩ := g_ite h
    refine gf_96_2 c6 q_241 dX10_become_28 ?_
    obtain ⟨q31, hq31, h⟩ := g_bind h
    refine r_callVNv [.ref (dy 17)] [] q31 (ok_X1_become_a98 hq31) q_1270 q_1272 q_86 q_1273 q_143 hd_X1_become (ce_2 D dy _) kc1.1 rfl ⟨Nat.le_of_ble_eq_true rfl, Nat.le_of_ble_eq_true rfl⟩ rfl rfl (Nat.le_of_ble_eq_true rfl) dX10_become_31 ?_
    refine r_aload_n 0 dX10_become_34 rfl rfl ?_
    refine r_aload_n 1 dX10_become_35 rfl rfl ?_
    obtain ⟨c7, h⟩ := g_ite h
    refine gf_96_3 c7 q_249 dX10_become_36 ?_
    refine pf_0_3 q_249 dX10_become_39 ?_
    generalize sI q31 2 (gI q31 65) = S8 at h ⊢
    replace h := g_let h
    refine r_iconst (v := 0) dX10_become_42 rfl ?_
    refine r_istore_n dX10_become_43 rfl (by decide) rfl ?_
    refine r_sub [1, 2, 0] rfl ?_
    exact w_X10_become_a96_44 _ _ _ _ h
theorem ok_X10_become_a96 {D : k_D} {dy : Nat → Nat} {S : St} {out : St} (h : f_X10_become_a96 S = some out) : Sp yX10_become cX10_become 3 none (k_rm 2) D dy S [.ref (D.2.2 0), .ref (dy 15)] (k_Pv dy out) := Sp.of (by decide +kernel) (Nat.le_of_ble_eq_true rfl) (w_X10_become_a96_0 S out h)
