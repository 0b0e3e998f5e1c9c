noncomputable def f_X0_find_99 (x2 : Int32) (S : St) : Option (St) := (f_X0_choose x2 S).bind fun q101 => some q101
noncomputable def f_X0_find_93 (k18 : Int32 → Int32 → Int32 → St → Option (St)) (x1 : Int32) (x2 : Int32) (x3 : Int32) (S : St) : Option (St) := k18 x1 x2 (x3 + (1 : Int32)) S
noncomputable def f_X0_find_18 : Nat → Int32 → Int32 → Int32 → St → Option (St)
  | 0, _, _, _, _ => none
  | n + 1, x1, x2, x3, S => if (gI S 1) ≤ x3 then f_X0_find_99 x2 S else if (16 : Int32) ≤ x3 then f_X0_find_99 x2 S else if k_b x3 16 = true then if (gA S 4 x3.toNatClampNeg) = x1 then if k_b x3 16 = true then if (gA S 19 x3.toNatClampNeg) = 0 then if k_b x3 16 = true then (f_X10_lengthOfDebt x3 S).bind fun q74 => (f_X0_share x3 ((gA S 6 x3.toNatClampNeg) * q74.1) x2 q74.2).bind fun q85 => f_X0_find_93 (f_X0_find_18 n) x1 (x2 + ((gA S 6 x3.toNatClampNeg) * q74.1)) x3 q85 else none else f_X0_find_93 (f_X0_find_18 n) x1 x2 x3 S else none else f_X0_find_93 (f_X0_find_18 n) x1 x2 x3 S else none
noncomputable def f_X0_find (x1 : Int32) (S : St) : Option (St) := (f_X3_hear S).bind fun q4 => if k_b (0 : Int32) 4321 = true then k_let (sA q4 40 (0 : Int32).toNatClampNeg (0 : Int32)) fun S2 => f_X0_find_18 FU x1 (0 : Int32) (0 : Int32) S2 else none
set_option maxRecDepth 100000 in
set_option maxHeartbeats 4000000 in
theorem w_X0_find_99 {D : k_D} {dy : Nat → Nat} (x2 : Int32) (S : St) (out : St) (h : f_X0_find_99 x2 S = some out) : Rn yX0_find cX0_find 5 none (k_rm 5) 0 0 D dy S (k_Pv dy out) 99 [(0, .ref (D.2.2 39)), (2, .int x2)] [] := by
    unfold f_X0_find_99 at h
    refine r_aload_n 0 dX0_find_99 rfl rfl ?_
    refine r_iload_n 1 dX0_find_100 rfl rfl ?_
    obtain ⟨q101, hq101, h⟩ := g_bind h
    refine r_callVv [.int x2] [] q101 (ok_X0_choose hq101) q_1144 q_1146 q_68 q_1147 q_150 hd_X0_choose (ce_39 D dy _) kc0.1 rfl ⟨Nat.le_of_ble_eq_true rfl, Nat.le_of_ble_eq_true rfl⟩ rfl rfl (Nat.le_of_ble_eq_true rfl) dX0_find_101 ?_
    exact r_vret rfl dX0_find_104 ⟨rfl, rfl, Option.some.inj h⟩
set_option maxRecDepth 100000 in
set_option maxHeartbeats 4000000 in
theorem w_X0_find_93 {D : k_D} {dy : Nat → Nat} {k18 : Int32 → Int32 → Int32 → St → Option (St)} (hk18 : ∀ (x1 : Int32) (x2 : Int32) (x3 : Int32) (S : St) (out : St), k18 x1 x2 x3 S = some out → Rn yX0_find cX0_find 5 none (k_rm 5) 0 0 D dy S (k_Pv dy out) 18 [(0, .ref (D.2.2 39)), (1, .int x1), (2, .int x2), (3, .int x3)] []) (x1 : Int32) (x2 : Int32) (x3 : Int32) (S : St) (out : St) (h : f_X0_find_93 k18 x1 x2 x3 S = some out) : Rn yX0_find cX0_find 5 none (k_rm 5) 0 0 D dy S (k_Pv dy out) 93 [(0, .ref (D.2.2 39)), (1, .int x1), (2, .int x2), (3, .int x3)] [] := by
    unfold f_X0_find_93 at h
    refine r_iinc (q := 3) (v := x3 + (1 : Int32)) dX0_find_93 rfl rfl (by decide) rfl ?_
    refine r_goto (t := 18) dX0_find_96 (by decide) ?_
    refine r_sub [1, 2, 3, 0] rfl ?_
    exact hk18 _ _ _ _ _ h
set_option maxRecDepth 100000 in
set_option maxHeartbeats 4000000 in
theorem w_X0_find_18 {D : k_D} {dy : Nat → Nat} : ∀ (n : Nat) (x1 : Int32) (x2 : Int32) (x3 : Int32) (S : St) (out : St), f_X0_find_18 n x1 x2 x3 S = some out → Rn yX0_find cX0_find 5 none (k_rm 5) 0 0 D dy S (k_Pv dy out) 18 [(0, .ref (D.2.2 39)), (1, .int x1), (2, .int x2), (3, .int x3)] [] := by
  intro n
  induction n with
  | zero => intro x1 x2 x3 S out h; cases h
  | succ n ih =>
    intro x1 x2 x3 S out h
    rw [f_X0_find_18] at h
    refine r_iload_n 3 dX0_find_18 rfl rfl ?_
    refine r_aload_n 0 dX0_find_19 rfl rfl ?_
    refine gf_39_1 q_520 dX0_find_20 ?_
    refine gfN_2_5 q_213 dX0_find_23 ?_
    refine r_icmp_ge (t := 99) dX0_find_26 (by decide) (fun c => ?_) (fun c => ?_)
    · rw [if_pos c] at h
      refine r_sub [0, 2] rfl ?_
      exact w_X0_find_99 _ _ _ h
    · rw [if_neg c] at h
      refine r_iload_n 3 dX0_find_29 rfl rfl ?_
      refine r_bipush (v := 16) dX0_find_30 rfl ?_
      refine r_icmp_ge (t := 99) dX0_find_32 (by decide) (fun c => ?_) (fun c => ?_)
      · rw [if_pos c] at h
        refine r_sub [0, 2] rfl ?_
        exact w_X0_find_99 _ _ _ h
      · rw [if_neg c] at h
        refine r_aload_n 0 dX0_find_35 rfl rfl ?_
        refine gf_39_1 q_520 dX0_find_36 ?_
        refine gfN_2_1 q_189 dX0_find_39 ?_
        refine r_iload_n 3 dX0_find_42 rfl rfl ?_
        obtain ⟨c1, h⟩ := g_ite h
        refine al_4 (k_b_in c1) dX0_find_43 ?_
        refine r_iload_n 1 dX0_find_44 rfl rfl ?_
        refine r_icmp_ne (t := 93) dX0_find_45 (by decide) (fun c => ?_) (fun c => ?_)
        · rw [if_neg c] at h
          exact w_X0_find_93 ih _ _ _ _ _ h
        · rw [if_pos c] at h
          refine r_aload_n 0 dX0_find_48 rfl rfl ?_
          refine gf_39_2 q_521 dX0_find_49 ?_
          refine gfN_17_3 q_375 dX0_find_52 ?_
          refine r_iload_n 3 dX0_find_55 rfl rfl ?_
          obtain ⟨c2, h⟩ := g_ite h
          refine al_19 (k_b_in c2) dX0_find_56 ?_
          refine r_if_ne (t := 93) dX0_find_57 (by decide) (fun c => ?_) (fun c => ?_)
          · rw [if_neg c] at h
            exact w_X0_find_93 ih _ _ _ _ _ h
          · rw [if_pos c] at h
            refine r_aload_n 0 dX0_find_60 rfl rfl ?_
            refine gf_39_1 q_520 dX0_find_61 ?_
            refine gfN_2_3 q_202 dX0_find_64 ?_
            refine r_iload_n 3 dX0_find_67 rfl rfl ?_
            obtain ⟨c3, h⟩ := g_ite h
            refine al_6 (k_b_in c3) dX0_find_68 ?_
            refine r_aload_n 0 dX0_find_69 rfl rfl ?_
            refine gf_39_0 q_519 dX0_find_70 ?_
            refine r_iload_n 3 dX0_find_73 rfl rfl ?_
            obtain ⟨q74, hq74, h⟩ := g_bind h
            refine r_callVNi [.int x3] [.int (gA S 6 x3.toNatClampNeg)] q74 (ok_X10_lengthOfDebt hq74) q_1139 q_705 q_10 q_706 q_142 hd_X10_lengthOfDebt (ce_0 D dy _) kc10.1 rfl ⟨Nat.le_of_ble_eq_true rfl, Nat.le_of_ble_eq_true rfl⟩ rfl rfl (Nat.le_of_ble_eq_true rfl) dX0_find_74 ?_
            refine r_imul dX0_find_77 ?_
            refine r_istore dX0_find_78 (by decide) rfl ?_
            refine r_aload_n 1 dX0_find_80 rfl rfl ?_
            refine r_iload_n 4 dX0_find_81 rfl rfl ?_
            refine r_iload 0 dX0_find_82 rfl ?_
            refine r_iload_n 3 dX0_find_84 rfl rfl ?_
            obtain ⟨q85, hq85, h⟩ := g_bind h
            refine r_callVv [.int x3, .int ((gA S 6 x3.toNatClampNeg) * q74.1), .int x2] [] q85 (ok_X0_share hq85) q_1140 q_1142 q_67 q_1143 q_150 hd_X0_share (ce_39 D dy _) kc0.1 rfl ⟨Nat.le_of_ble_eq_true rfl, Nat.le_of_ble_eq_true rfl⟩ rfl rfl (Nat.le_of_ble_eq_true rfl) dX0_find_85 ?_
            refine r_iload_n 3 dX0_find_88 rfl rfl ?_
            refine r_iload 0 dX0_find_89 rfl ?_
            refine r_iadd dX0_find_91 ?_
            refine r_istore_n dX0_find_92 rfl (by decide) rfl ?_
            refine r_sub [2, 3, 0, 4] rfl ?_
            exact w_X0_find_93 ih _ _ _ _ _ h
set_option maxRecDepth 100000 in
set_option maxHeartbeats 4000000 in
theorem w_X0_find_0 {D : k_D} {dy : Nat → Nat} (x1 : Int32) (S : St) (out : St) (h : f_X0_find x1 S = some out) : Rn yX0_find cX0_find 5 none (k_rm 5) 0 0 D dy S (k_Pv dy out) 0 [(0, .ref (D.2.2 39)), (1, .int x1)] [] := by
    unfold f_X0_find at h
    refine r_aload_n 0 dX0_find_0 rfl rfl ?_
    refine gf_39_2 q_521 dX0_find_1 ?_
    obtain ⟨q4, hq4, h⟩ := g_bind h
    refine r_callVNv [] [] q4 (ok_X3_hear hq4) q_1138 q_689 q_7 q_690 q_146 hd_X3_hear (ce_17 D dy _) kc3.1 rfl ⟨Nat.le_of_ble_eq_true rfl, Nat.le_of_ble_eq_true rfl⟩ rfl rfl (Nat.le_of_ble_eq_true rfl) dX0_find_4 ?_
    refine r_iconst (v := 0) dX0_find_7 rfl ?_
    refine r_istore_n dX0_find_8 rfl (by decide) rfl ?_
    refine r_aload_n 1 dX0_find_9 rfl rfl ?_
    refine gf_39_3 q_522 dX0_find_10 ?_
    refine r_iconst (v := 0) dX0_find_13 rfl ?_
    refine r_iconst (v := 0) dX0_find_14 rfl ?_
    obtain ⟨c1, h⟩ := g_ite h
    refine as_40 (k_b_in c1) dX0_find_15 ?_
    generalize sA q4 40 (0 : Int32).toNatClampNeg (0 : Int32) = S2 at h ⊢
    replace h := g_let h
    refine r_iconst (v := 0) dX0_find_16 rfl ?_
    refine r_istore_n dX0_find_17 rfl (by decide) rfl ?_
    refine r_sub [2, 3, 1, 0] rfl ?_
    exact w_X0_find_18 _ _ _ _ _ _ h
theorem ok_X0_find {D : k_D} {dy : Nat → Nat} {x1 : Int32} {S : St} {out : St} (h : f_X0_find x1 S = some out) : Sp yX0_find cX0_find 5 none (k_rm 5) D dy S [.ref (D.2.2 39), .int x1] (k_Pv dy out) := Sp.of (by decide +kernel) (Nat.le_of_ble_eq_true rfl) (w_X0_find_0 _ S out h)
noncomputable def f_X1_add (x1 : Int32) (x2 : Int32) (x3 : Int32) (x4 : Int32) (x5 : Int32) (S : St) : Option (Int32 × St) := if (gI S 1) < (16 : Int32) then if k_b (gI S 1) 16 = true then k_let (sA S 3 (gI S 1).toNatClampNeg x1) fun S2 => if k_b (gI S2 1) 16 = true then k_let (sA S2 4 (gI S2 1).toNatClampNeg x2) fun S4 => if k_b (gI S4 1) 16 = true then k_let (sA S4 5 (gI S4 1).toNatClampNeg x3) fun S6 => if k_b (gI S6 1) 16 = true then k_let (sA S6 6 (gI S6 1).toNatClampNeg x4) fun S8 => if k_b (gI S8 1) 16 = true then k_let (sA S8 7 (gI S8 1).toNatClampNeg x5) fun S10 => k_let (sI S10 1 ((gI S10 1) + (1 : Int32))) fun S11 => some ((gI S11 1) - (1 : Int32), S11) else none else none else none else none else none else some ((-1 : Int32), S)
set_option maxRecDepth 100000 in
set_option maxHeartbeats 4000000 in
theorem w_X1_add_0 {D : k_D} {dy : Nat → Nat} (x1 : Int32) (x2 : Int32) (x3 : Int32) (x4 : Int32) (x5 : Int32) (S : St) (out : Int32 × St) (h : f_X1_add x1 x2 x3 x4 x5 S = some out) : Rn yX1_add cX1_add 6 (some .int) (k_rm 0) 0 0 D dy S (k_Pi dy out) 0 [(0, .ref (D.2.2 2)), (1, .int x1), (2, .int x2), (3, .int x3), (4, .int x4), (5, .int x5)] [] := by
    unfold f_X1_add at h
    refine r_aload_n 0 dX1_add_0 rfl rfl ?_
    refine gf_2_5 q_211 dX1_add_1 ?_
    refine r_bipush (v := 16) dX1_add_4 rfl ?_
    refine r_icmp_lt (t := 11) dX1_add_6 (by decide) (fun c => ?_) (fun c => ?_)
    · rw [if_pos c] at h
      refine r_aload_n 0 dX1_add_11 rfl rfl ?_
      refine gf_2_0 q_182 dX1_add_12 ?_
      refine r_aload_n 0 dX1_add_15 rfl rfl ?_
      refine gf_2_5 q_211 dX1_add_16 ?_
      refine r_iload_n 1 dX1_add_19 rfl rfl ?_
      obtain ⟨c1, h⟩ := g_ite h
      refine as_3 (k_b_in c1) dX1_add_20 ?_
      generalize sA S 3 (gI S 1).toNatClampNeg x1 = S2 at h ⊢
      replace h := g_let h
      refine r_aload_n 0 dX1_add_21 rfl rfl ?_
      refine gf_2_1 q_188 dX1_add_22 ?_
      refine r_aload_n 0 dX1_add_25 rfl rfl ?_
      refine gf_2_5 q_211 dX1_add_26 ?_
      refine r_iload_n 2 dX1_add_29 rfl rfl ?_
      obtain ⟨c3, h⟩ := g_ite h
      refine as_4 (k_b_in c3) dX1_add_30 ?_
      generalize sA S2 4 (gI S2 1).toNatClampNeg x2 = S4 at h ⊢
      replace h := g_let h
      refine r_aload_n 0 dX1_add_31 rfl rfl ?_
      refine gf_2_2 q_195 dX1_add_32 ?_
      refine r_aload_n 0 dX1_add_35 rfl rfl ?_
      refine gf_2_5 q_211 dX1_add_36 ?_
      refine r_iload_n 3 dX1_add_39 rfl rfl ?_
      obtain ⟨c5, h⟩ := g_ite h
      refine as_5 (k_b_in c5) dX1_add_40 ?_
      generalize sA S4 5 (gI S4 1).toNatClampNeg x3 = S6 at h ⊢
      replace h := g_let h
      refine r_aload_n 0 dX1_add_41 rfl rfl ?_
      refine gf_2_3 q_201 dX1_add_42 ?_
      refine r_aload_n 0 dX1_add_45 rfl rfl ?_
      refine gf_2_5 q_211 dX1_add_46 ?_
      refine r_iload 4 dX1_add_49 rfl ?_
      obtain ⟨c7, h⟩ := g_ite h
      refine as_6 (k_b_in c7) dX1_add_51 ?_
      generalize sA S6 6 (gI S6 1).toNatClampNeg x4 = S8 at h ⊢
      replace h := g_let h
      refine r_aload_n 0 dX1_add_52 rfl rfl ?_
      refine gf_2_4 q_209 dX1_add_53 ?_
      refine r_aload_n 0 dX1_add_56 rfl rfl ?_
      refine gf_2_5 q_211 dX1_add_57 ?_
      refine r_iload 5 dX1_add_60 rfl ?_
      obtain ⟨c9, h⟩ := g_ite h
      refine as_7 (k_b_in c9) dX1_add_62 ?_
      generalize sA S8 7 (gI S8 1).toNatClampNeg x5 = S10 at h ⊢
      replace h := g_let h
      refine r_aload_n 0 dX1_add_63 rfl rfl ?_
      refine r_dup dX1_add_64 rfl ?_
      refine gf_2_5 q_211 dX1_add_65 ?_
      refine r_iconst (v := 1) dX1_add_68 rfl ?_
      refine r_iadd dX1_add_69 ?_
      refine pf_2_5 q_211 dX1_add_70 ?_
      generalize sI S10 1 ((gI S10 1) + (1 : Int32)) = S11 at h ⊢
      replace h := g_let h
      refine r_aload_n 0 dX1_add_73 rfl rfl ?_
      refine gf_2_5 q_211 dX1_add_74 ?_
      refine r_iconst (v := 1) dX1_add_77 rfl ?_
      refine r_isub dX1_add_78 ?_
      cases h
      exact r_iret rfl dX1_add_79 ⟨rfl, rfl, rfl⟩
    · rw [if_neg c] at h
      refine r_iconst (v := -1) dX1_add_9 rfl ?_
      cases h
      exact r_iret rfl dX1_add_10 ⟨rfl, rfl, rfl⟩
theorem ok_X1_add {D : k_D} {dy : Nat → Nat} {x1 : Int32} {x2 : Int32} {x3 : Int32} {x4 : Int32} {x5 : Int32} {S : St} {out : Int32 × St} (h : f_X1_add x1 x2 x3 x4 x5 S = some out) : Sp yX1_add cX1_add 6 (some .int) (k_rm 0) D dy S [.ref (D.2.2 2), .int x1, .int x2, .int x3, .int x4, .int x5] (k_Pi dy out) := Sp.of (by decide +kernel) (Nat.le_of_ble_eq_true rfl) (w_X1_add_0 _ _ _ _ _ S out h)
noncomputable def f_X1_told (x1 : Int32) (x2 : Int32) (S : St) : Option (Int32 × St) := (f_X1_has x1 S).bind fun q2 => if q2.1 = 0 then some ((-1 : Int32), q2.2) else if x2 = (0 : Int32) then if k_b x1 16 = true then some (gA q2.2 3 x1.toNatClampNeg, q2.2) else none else if x2 = (1 : Int32) then if k_b x1 16 = true then some (gA q2.2 4 x1.toNatClampNeg, q2.2) else none else if x2 = (2 : Int32) then if k_b x1 16 = true then some (gA q2.2 5 x1.toNatClampNeg, q2.2) else none else if x2 = (3 : Int32) then if k_b x1 16 = true then some (gA q2.2 6 x1.toNatClampNeg, q2.2) else none else if x2 = (4 : Int32) then if k_b x1 16 = true then some (gA q2.2 7 x1.toNatClampNeg, q2.2) else none else some ((-1 : Int32), q2.2)
set_option maxRecDepth 100000 in
set_option maxHeartbeats 4000000 in
theorem w_X1_told_0 {D : k_D} {dy : Nat → Nat} (x1 : Int32) (x2 : Int32) (S : St) (out : Int32 × St) (h : f_X1_told x1 x2 S = some out) : Rn yX1_told cX1_told 3 (some .int) (k_rm 1) 0 0 D dy S (k_Pi dy out) 0 [(0, .ref (D.2.2 2)), (1, .int x1), (2, .int x2)] [] := by
    unfold f_X1_told at h
    refine r_aload_n 0 dX1_told_0 rfl rfl ?_
    refine r_iload_n 1 dX1_told_1 rfl rfl ?_
    obtain ⟨q2, hq2, h⟩ := g_bind h
    refine r_callVi [.int x1] [] q2 (ok_X1_has hq2) q_686 q_680 q_5 q_681 q_143 hd_X1_has (ce_2 D dy _) kc1.1 rfl ⟨Nat.le_of_ble_eq_true rfl, Nat.le_of_ble_eq_true rfl⟩ rfl rfl (Nat.le_of_ble_eq_true rfl) dX1_told_2 ?_
    refine r_if_ne (t := 10) dX1_told_5 (by decide) (fun c => ?_) (fun c => ?_)
    · rw [if_neg c] at h
      refine r_iload_n 2 dX1_told_10 rfl rfl ?_
      by_cases c0 : x2 = (0 : Int32)
      · rw [if_pos c0] at h
        refine r_tableIn (t := 44) (o := 33) dX1_told_11 (by rw [c0]; decide) (by rw [c0]; decide) (by rw [c0]; rfl) (by decide) ?_
        refine r_aload_n 0 dX1_told_44 rfl rfl ?_
        refine gf_2_0 q_182 dX1_told_45 ?_
        refine r_iload_n 1 dX1_told_48 rfl rfl ?_
        obtain ⟨c1, h⟩ := g_ite h
        refine al_3 (k_b_in c1) dX1_told_49 ?_
        cases h
        exact r_iret rfl dX1_told_50 ⟨rfl, rfl, rfl⟩
      rw [if_neg c0] at h
      by_cases c1 : x2 = (1 : Int32)
      · rw [if_pos c1] at h
        refine r_tableIn (t := 51) (o := 40) dX1_told_11 (by rw [c1]; decide) (by rw [c1]; decide) (by rw [c1]; rfl) (by decide) ?_
        refine r_aload_n 0 dX1_told_51 rfl rfl ?_
        refine gf_2_1 q_188 dX1_told_52 ?_
        refine r_iload_n 1 dX1_told_55 rfl rfl ?_
        obtain ⟨c2, h⟩ := g_ite h
        refine al_4 (k_b_in c2) dX1_told_56 ?_
        cases h
        exact r_iret rfl dX1_told_57 ⟨rfl, rfl, rfl⟩
      rw [if_neg c1] at h
      by_cases c2 : x2 = (2 : Int32)
      · rw [if_pos c2] at h
        refine r_tableIn (t := 58) (o := 47) dX1_told_11 (by rw [c2]; decide) (by rw [c2]; decide) (by rw [c2]; rfl) (by decide) ?_
        refine r_aload_n 0 dX1_told_58 rfl rfl ?_
        refine gf_2_2 q_195 dX1_told_59 ?_
        refine r_iload_n 1 dX1_told_62 rfl rfl ?_
        obtain ⟨c3, h⟩ := g_ite h
        refine al_5 (k_b_in c3) dX1_told_63 ?_
        cases h
        exact r_iret rfl dX1_told_64 ⟨rfl, rfl, rfl⟩
      rw [if_neg c2] at h
      by_cases c3 : x2 = (3 : Int32)
      · rw [if_pos c3] at h
        refine r_tableIn (t := 65) (o := 54) dX1_told_11 (by rw [c3]; decide) (by rw [c3]; decide) (by rw [c3]; rfl) (by decide) ?_
        refine r_aload_n 0 dX1_told_65 rfl rfl ?_
        refine gf_2_3 q_201 dX1_told_66 ?_
        refine r_iload_n 1 dX1_told_69 rfl rfl ?_
        obtain ⟨c4, h⟩ := g_ite h
        refine al_6 (k_b_in c4) dX1_told_70 ?_
        cases h
        exact r_iret rfl dX1_told_71 ⟨rfl, rfl, rfl⟩
      rw [if_neg c3] at h
      by_cases c4 : x2 = (4 : Int32)
      · rw [if_pos c4] at h
        refine r_tableIn (t := 72) (o := 61) dX1_told_11 (by rw [c4]; decide) (by rw [c4]; decide) (by rw [c4]; rfl) (by decide) ?_
        refine r_aload_n 0 dX1_told_72 rfl rfl ?_
        refine gf_2_4 q_209 dX1_told_73 ?_
        refine r_iload_n 1 dX1_told_76 rfl rfl ?_
        obtain ⟨c5, h⟩ := g_ite h
        refine al_7 (k_b_in c5) dX1_told_77 ?_
        cases h
        exact r_iret rfl dX1_told_78 ⟨rfl, rfl, rfl⟩
      rw [if_neg c4] at h
      refine r_tableOut (t := 79) dX1_told_11 (by have e0 := g_ne c0 (k := 0) rfl; have e1 := g_ne c1 (k := 1) rfl; have e2 := g_ne c2 (k := 2) rfl; have e3 := g_ne c3 (k := 3) rfl; have e4 := g_ne c4 (k := 4) rfl; omega) (by decide) ?_
      refine r_iconst (v := -1) dX1_told_79 rfl ?_
      cases h
      exact r_iret rfl dX1_told_80 ⟨rfl, rfl, rfl⟩
    · rw [if_pos c] at h
      refine r_iconst (v := -1) dX1_told_8 rfl ?_
      cases h
      exact r_iret rfl dX1_told_9 ⟨rfl, rfl, rfl⟩
theorem ok_X1_told {D : k_D} {dy : Nat → Nat} {x1 : Int32} {x2 : Int32} {S : St} {out : Int32 × St} (h : f_X1_told x1 x2 S = some out) : Sp yX1_told cX1_told 3 (some .int) (k_rm 1) D dy S [.ref (D.2.2 2), .int x1, .int x2] (k_Pi dy out) := Sp.of (by decide +kernel) (Nat.le_of_ble_eq_true rfl) (w_X1_told_0 _ _ S out h)
noncomputable def f_X1_dropPlayed_96 (x1 : Int32) (S : St) : Option (St) := k_let (sI S 1 x1) fun S1 => some S1
noncomputable def f_X1_dropPlayed_90 (k4 : Int32 → Int32 → St → Option (St)) (x1 : Int32) (x2 : Int32) (S : St) : Option (St) := k4 x1 (x2 + (1 : Int32)) S
noncomputable def f_X1_dropPlayed_4 : Nat → Int32 → Int32 → St → Option (St)
  | 0, _, _, _ => none
  | n + 1, x1, x2, S => if (gI S 1) ≤ x2 then f_X1_dropPlayed_96 x1 S else if (16 : Int32) ≤ x2 then f_X1_dropPlayed_96 x1 S else if k_b x2 16 = true then if (gA S 6 x2.toNatClampNeg) ≤ 0 then f_X1_dropPlayed_90 (f_X1_dropPlayed_4 n) x1 x2 S else if k_b x2 16 = true then if k_b x1 16 = true then k_let (sA S 3 x1.toNatClampNeg (gA S 3 x2.toNatClampNeg)) fun S4 => if k_b x2 16 = true then if k_b x1 16 = true then k_let (sA S4 4 x1.toNatClampNeg (gA S4 4 x2.toNatClampNeg)) fun S7 => if k_b x2 16 = true then if k_b x1 16 = true then k_let (sA S7 5 x1.toNatClampNeg (gA S7 5 x2.toNatClampNeg)) fun S10 => if k_b x2 16 = true then if k_b x1 16 = true then k_let (sA S10 6 x1.toNatClampNeg (gA S10 6 x2.toNatClampNeg)) fun S13 => if k_b x2 16 = true then if k_b x1 16 = true then k_let (sA S13 7 x1.toNatClampNeg (gA S13 7 x2.toNatClampNeg)) fun S16 => f_X1_dropPlayed_90 (f_X1_dropPlayed_4 n) (x1 + (1 : Int32)) x2 S16 else none else none else none else none else none else none else none else none else none else none else none
noncomputable def f_X1_dropPlayed (S : St) : Option (St) := f_X1_dropPlayed_4 FU (0 : Int32) (0 : Int32) S
set_option maxRecDepth 100000 in
set_option maxHeartbeats 4000000 in
theorem w_X1_dropPlayed_96 {D : k_D} {dy : Nat → Nat} (x1 : Int32) (S : St) (out : St) (h : f_X1_dropPlayed_96 x1 S = some out) : Rn yX1_dropPlayed cX1_dropPlayed 3 none (k_rm 0) 0 0 D dy S (k_Pv dy out) 96 [(0, .ref (D.2.2 2)), (1, .int x1)] [] := by
    unfold f_X1_dropPlayed_96 at h
    refine r_aload_n 0 dX1_dropPlayed_96 rfl rfl ?_
    refine r_iload_n 1 dX1_dropPlayed_97 rfl rfl ?_
    refine pf_2_5 q_211 dX1_dropPlayed_98 ?_
    generalize sI S 1 x1 = S1 at h ⊢
    replace h := g_let h
    exact r_vret rfl dX1_dropPlayed_101 ⟨rfl, rfl, Option.some.inj h⟩
set_option maxRecDepth 100000 in
set_option maxHeartbeats 4000000 in
theorem w_X1_dropPlayed_90 {D : k_D} {dy : Nat → Nat} {k4 : Int32 → Int32 → St → Option (St)} (hk4 : ∀ (x1 : Int32) (x2 : Int32) (S : St) (out : St), k4 x1 x2 S = some out → Rn yX1_dropPlayed cX1_dropPlayed 3 none (k_rm 0) 0 0 D dy S (k_Pv dy out) 4 [(0, .ref (D.2.2 2)), (1, .int x1), (2, .int x2)] []) (x1 : Int32) (x2 : Int32) (S : St) (out : St) (h : f_X1_dropPlayed_90 k4 x1 x2 S = some out) : Rn yX1_dropPlayed cX1_dropPlayed 3 none (k_rm 0) 0 0 D dy S (k_Pv dy out) 90 [(0, .ref (D.2.2 2)), (1, .int x1), (2, .int x2)] [] := by
    unfold f_X1_dropPlayed_90 at h
    refine r_iinc (q := 2) (v := x2 + (1 : Int32)) dX1_dropPlayed_90 rfl rfl (by decide) rfl ?_
    refine r_goto (t := 4) dX1_dropPlayed_93 (by decide) ?_
    refine r_sub [1, 2, 0] rfl ?_
    exact hk4 _ _ _ _ h
set_option maxRecDepth 100000 in
set_option maxHeartbeats 4000000 in
theorem w_X1_dropPlayed_4 {D : k_D} {dy : Nat → Nat} : ∀ (n : Nat) (x1 : Int32) (x2 : Int32) (S : St) (out : St), f_X1_dropPlayed_4 n x1 x2 S = some out → Rn yX1_dropPlayed cX1_dropPlayed 3 none (k_rm 0) 0 0 D dy S (k_Pv dy out) 4 [(0, .ref (D.2.2 2)), (1, .int x1), (2, .int x2)] [] := by
  intro n
  induction n with
  | zero => intro x1 x2 S out h; cases h
  | succ n ih =>
    intro x1 x2 S out h
    rw [f_X1_dropPlayed_4] at h
    refine r_iload_n 2 dX1_dropPlayed_4 rfl rfl ?_
    refine r_aload_n 0 dX1_dropPlayed_5 rfl rfl ?_
    refine gf_2_5 q_211 dX1_dropPlayed_6 ?_
    refine r_icmp_ge (t := 96) dX1_dropPlayed_9 (by decide) (fun c => ?_) (fun c => ?_)
    · rw [if_pos c] at h
      refine r_sub [0, 1] rfl ?_
      exact w_X1_dropPlayed_96 _ _ _ h
    · rw [if_neg c] at h
      refine r_iload_n 2 dX1_dropPlayed_12 rfl rfl ?_
      refine r_bipush (v := 16) dX1_dropPlayed_13 rfl ?_
      refine r_icmp_ge (t := 96) dX1_dropPlayed_15 (by decide) (fun c => ?_) (fun c => ?_)
      · rw [if_pos c] at h
        refine r_sub [0, 1] rfl ?_
        exact w_X1_dropPlayed_96 _ _ _ h
      · rw [if_neg c] at h
        refine r_aload_n 0 dX1_dropPlayed_18 rfl rfl ?_
        refine gf_2_3 q_201 dX1_dropPlayed_19 ?_
        refine r_iload_n 2 dX1_dropPlayed_22 rfl rfl ?_
        obtain ⟨c1, h⟩ := g_ite h
        refine al_6 (k_b_in c1) dX1_dropPlayed_23 ?_
        refine r_if_le (t := 90) dX1_dropPlayed_24 (by decide) (fun c => ?_) (fun c => ?_)
        · rw [if_pos c] at h
          exact w_X1_dropPlayed_90 ih _ _ _ _ h
        · rw [if_neg c] at h
          refine r_aload_n 0 dX1_dropPlayed_27 rfl rfl ?_
          refine gf_2_0 q_182 dX1_dropPlayed_28 ?_
          refine r_iload_n 1 dX1_dropPlayed_31 rfl rfl ?_
          refine r_aload_n 0 dX1_dropPlayed_32 rfl rfl ?_
          refine gf_2_0 q_182 dX1_dropPlayed_33 ?_
          refine r_iload_n 2 dX1_dropPlayed_36 rfl rfl ?_
          obtain ⟨c2, h⟩ := g_ite h
          refine al_3 (k_b_in c2) dX1_dropPlayed_37 ?_
          obtain ⟨c3, h⟩ := g_ite h
          refine as_3 (k_b_in c3) dX1_dropPlayed_38 ?_
          generalize sA S 3 x1.toNatClampNeg (gA S 3 x2.toNatClampNeg) = S4 at h ⊢
          replace h := g_let h
          refine r_aload_n 0 dX1_dropPlayed_39 rfl rfl ?_
          refine gf_2_1 q_188 dX1_dropPlayed_40 ?_
          refine r_iload_n 1 dX1_dropPlayed_43 rfl rfl ?_
          refine r_aload_n 0 dX1_dropPlayed_44 rfl rfl ?_
          refine gf_2_1 q_188 dX1_dropPlayed_45 ?_
          refine r_iload_n 2 dX1_dropPlayed_48 rfl rfl ?_
          obtain ⟨c5, h⟩ := g_ite h
          refine al_4 (k_b_in c5) dX1_dropPlayed_49 ?_
          obtain ⟨c6, h⟩ := g_ite h
          refine as_4 (k_b_in c6) dX1_dropPlayed_50 ?_
          generalize sA S4 4 x1.toNatClampNeg (gA S4 4 x2.toNatClampNeg) = S7 at h ⊢
          replace h := g_let h
          refine r_aload_n 0 dX1_dropPlayed_51 rfl rfl ?_
          refine gf_2_2 q_195 dX1_dropPlayed_52 ?_
          refine r_iload_n 1 dX1_dropPlayed_55 rfl rfl ?_
          refine r_aload_n 0 dX1_dropPlayed_56 rfl rfl ?_
          refine gf_2_2 q_195 dX1_dropPlayed_57 ?_
          refine r_iload_n 2 dX1_dropPlayed_60 rfl rfl ?_
          obtain ⟨c8, h⟩ := g_ite h
          refine al_5 (k_b_in c8) dX1_dropPlayed_61 ?_
          obtain ⟨c9, h⟩ := g_ite h
          refine as_5 (k_b_in c9) dX1_dropPlayed_62 ?_
          generalize sA S7 5 x1.toNatClampNeg (gA S7 5 x2.toNatClampNeg) = S10 at h ⊢
          replace h := g_let h
          refine r_aload_n 0 dX1_dropPlayed_63 rfl rfl ?_
          refine gf_2_3 q_201 dX1_dropPlayed_64 ?_
          refine r_iload_n 1 dX1_dropPlayed_67 rfl rfl ?_
          refine r_aload_n 0 dX1_dropPlayed_68 rfl rfl ?_
          refine gf_2_3 q_201 dX1_dropPlayed_69 ?_
          refine r_iload_n 2 dX1_dropPlayed_72 rfl rfl ?_
          obtain ⟨c11, h⟩ := g_ite h
          refine al_6 (k_b_in c11) dX1_dropPlayed_73 ?_
          obtain ⟨c12, h⟩ := g_ite h
          refine as_6 (k_b_in c12) dX1_dropPlayed_74 ?_
          generalize sA S10 6 x1.toNatClampNeg (gA S10 6 x2.toNatClampNeg) = S13 at h ⊢
          replace h := g_let h
          refine r_aload_n 0 dX1_dropPlayed_75 rfl rfl ?_
          refine gf_2_4 q_209 dX1_dropPlayed_76 ?_
          refine r_iload_n 1 dX1_dropPlayed_79 rfl rfl ?_
          refine r_aload_n 0 dX1_dropPlayed_80 rfl rfl ?_
          refine gf_2_4 q_209 dX1_dropPlayed_81 ?_
          refine r_iload_n 2 dX1_dropPlayed_84 rfl rfl ?_
          obtain ⟨c14, h⟩ := g_ite h
          refine al_7 (k_b_in c14) dX1_dropPlayed_85 ?_
          obtain ⟨c15, h⟩ := g_ite h
          refine as_7 (k_b_in c15) dX1_dropPlayed_86 ?_
          generalize sA S13 7 x1.toNatClampNeg (gA S13 7 x2.toNatClampNeg) = S16 at h ⊢
          replace h := g_let h
          refine r_iinc (q := 1) (v := x1 + (1 : Int32)) dX1_dropPlayed_87 rfl rfl (by decide) rfl ?_
          refine r_sub [1, 0, 2] rfl ?_
          exact w_X1_dropPlayed_90 ih _ _ _ _ h
set_option maxRecDepth 100000 in
set_option maxHeartbeats 4000000 in
theorem w_X1_dropPlayed_0 {D : k_D} {dy : Nat → Nat} (S : St) (out : St) (h : f_X1_dropPlayed S = some out) : Rn yX1_dropPlayed cX1_dropPlayed 3 none (k_rm 0) 0 0 D dy S (k_Pv dy out) 0 [(0, .ref (D.2.2 2))] [] := by
    unfold f_X1_dropPlayed at h
    refine r_iconst (v := 0) dX1_dropPlayed_0 rfl ?_
    refine r_istore_n dX1_dropPlayed_1 rfl (by decide) rfl ?_
    refine r_iconst (v := 0) dX1_dropPlayed_2 rfl ?_
    refine r_istore_n dX1_dropPlayed_3 rfl (by decide) rfl ?_
    refine r_sub [2, 1, 0] rfl ?_
    exact w_X1_dropPlayed_4 _ _ _ _ _ h
theorem ok_X1_dropPlayed {D : k_D} {dy : Nat → Nat} {S : St} {out : St} (h : f_X1_dropPlayed S = some out) : Sp yX1_dropPlayed cX1_dropPlayed 3 none (k_rm 0) D dy S [.ref (D.2.2 2)] (k_Pv dy out) := Sp.of (by decide +kernel) (Nat.le_of_ble_eq_true rfl) (w_X1_dropPlayed_0 S out h)
noncomputable def f_X1_bury_60 (x2 : Int32) (S : St) : Option (Int32 × St) := (f_X1_dropPlayed S).bind fun q61 => some (x2, q61)
noncomputable def f_X1_bury_54 (k4 : Int32 → Int32 → Int32 → St → Option (Int32 × St)) (x1 : Int32) (x2 : Int32) (x3 : Int32) (S : St) : Option (Int32 × St) := k4 x1 x2 (x3 + (1 : Int32)) S
noncomputable def f_X1_bury_38 (k4 : Int32 → Int32 → Int32 → St → Option (Int32 × St)) (x1 : Int32) (x2 : Int32) (x3 : Int32) (S : St) : Option (Int32 × St) := if k_b x3 16 = true then if k_b x3 16 = true then k_let (sA S 6 x3.toNatClampNeg (0 : Int32)) fun S3 => f_X1_bury_54 k4 x1 (x2 + (gA S 6 x3.toNatClampNeg)) x3 S3 else none else none
noncomputable def f_X1_bury_4 : Nat → Int32 → Int32 → Int32 → St → Option (Int32 × St)
  | 0, _, _, _, _ => none
  | n + 1, x1, x2, x3, S => if (gI S 1) ≤ x3 then f_X1_bury_60 x2 S else if (16 : Int32) ≤ x3 then f_X1_bury_60 x2 S else if k_b x3 16 = true then if (gA S 3 x3.toNatClampNeg) = x1 then f_X1_bury_38 (f_X1_bury_4 n) x1 x2 x3 S else if k_b x3 16 = true then if (gA S 4 x3.toNatClampNeg) = x1 then f_X1_bury_38 (f_X1_bury_4 n) x1 x2 x3 S else f_X1_bury_54 (f_X1_bury_4 n) x1 x2 x3 S else none else none
noncomputable def f_X1_bury (x1 : Int32) (S : St) : Option (Int32 × St) := f_X1_bury_4 FU x1 (0 : Int32) (0 : Int32) S
set_option maxRecDepth 100000 in
set_option maxHeartbeats 4000000 in
theorem w_X1_bury_60 {D : k_D} {dy : Nat → Nat} (x2 : Int32) (S : St) (out : Int32 × St) (h : f_X1_bury_60 x2 S = some out) : Rn yX1_bury cX1_bury 4 (some .int) (k_rm 1) 0 0 D dy S (k_Pi dy out) 60 [(0, .ref (D.2.2 2)), (2, .int x2)] [] := by
    unfold f_X1_bury_60 at h
    refine r_aload_n 0 dX1_bury_60 rfl rfl ?_
    obtain ⟨q61, hq61, h⟩ := g_bind h
    refine r_callVv [] [] q61 (ok_X1_dropPlayed hq61) q_763 q_753 q_18 q_754 q_143 hd_X1_dropPlayed (ce_2 D dy _) kc1.1 rfl ⟨Nat.le_of_ble_eq_true rfl, Nat.le_of_ble_eq_true rfl⟩ rfl rfl (Nat.le_of_ble_eq_true rfl) dX1_bury_61 ?_
    refine r_iload_n 1 dX1_bury_64 rfl rfl ?_
    cases h
    exact r_iret rfl dX1_bury_65 ⟨rfl, rfl, rfl⟩
set_option maxRecDepth 100000 in
set_option maxHeartbeats 4000000 in
theorem w_X1_bury_54 {D : k_D} {dy : Nat → Nat} {k4 : Int32 → Int32 → Int32 → St → Option (Int32 × St)} (hk4 : ∀ (x1 : Int32) (x2 : Int32) (x3 : Int32) (S : St) (out : Int32 × St), k4 x1 x2 x3 S = some out → Rn yX1_bury cX1_bury 4 (some .int) (k_rm 1) 0 0 D dy S (k_Pi dy out) 4 [(0, .ref (D.2.2 2)), (1, .int x1), (2, .int x2), (3, .int x3)] []) (x1 : Int32) (x2 : Int32) (x3 : Int32) (S : St) (out : Int32 × St) (h : f_X1_bury_54 k4 x1 x2 x3 S = some out) : Rn yX1_bury cX1_bury 4 (some .int) (k_rm 1) 0 0 D dy S (k_Pi dy out) 54 [(0, .ref (D.2.2 2)), (1, .int x1), (2, .int x2), (3, .int x3)] [] := by
    unfold f_X1_bury_54 at h
    refine r_iinc (q := 3) (v := x3 + (1 : Int32)) dX1_bury_54 rfl rfl (by decide) rfl ?_
    refine r_goto (t := 4) dX1_bury_57 (by decide) ?_
    refine r_sub [1, 2, 3, 0] rfl ?_
    exact hk4 _ _ _ _ _ h
set_option maxRecDepth 100000 in
set_option maxHeartbeats 4000000 in
theorem w_X1_bury_38 {D : k_D} {dy : Nat → Nat} {k4 : Int32 → Int32 → Int32 → St → Option (Int32 × St)} (hk4 : ∀ (x1 : Int32) (x2 : Int32) (x3 : Int32) (S : St) (out : Int32 × St), k4 x1 x2 x3 S = some out → Rn yX1_bury cX1_bury 4 (some .int) (k_rm 1) 0 0 D dy S (k_Pi dy out) 4 [(0, .ref (D.2.2 2)), (1, .int x1), (2, .int x2), (3, .int x3)] []) (x1 : Int32) (x2 : Int32) (x3 : Int32) (S : St) (out : Int32 × St) (h : f_X1_bury_38 k4 x1 x2 x3 S = some out) : Rn yX1_bury cX1_bury 4 (some .int) (k_rm 1) 0 0 D dy S (k_Pi dy out) 38 [(0, .ref (D.2.2 2)), (1, .int x1), (2, .int x2), (3, .int x3)] [] := by
    unfold f_X1_bury_38 at h
    refine r_iload_n 2 dX1_bury_38 rfl rfl ?_
    refine r_aload_n 0 dX1_bury_39 rfl rfl ?_
    refine gf_2_3 q_201 dX1_bury_40 ?_
    refine r_iload_n 3 dX1_bury_43 rfl rfl ?_
    obtain ⟨c1, h⟩ := g_ite h
    refine al_6 (k_b_in c1) dX1_bury_44 ?_
    refine r_iadd dX1_bury_45 ?_
    refine r_istore_n dX1_bury_46 rfl (by decide) rfl ?_
    refine r_aload_n 1 dX1_bury_47 rfl rfl ?_
    refine gf_2_3 q_201 dX1_bury_48 ?_
    refine r_iload_n 3 dX1_bury_51 rfl rfl ?_
    refine r_iconst (v := 0) dX1_bury_52 rfl ?_
    obtain ⟨c2, h⟩ := g_ite h
    refine as_6 (k_b_in c2) dX1_bury_53 ?_
    generalize sA S 6 x3.toNatClampNeg (0 : Int32) = S3 at h ⊢
    replace h := g_let h
    refine r_sub [1, 2, 0, 3] rfl ?_
    exact w_X1_bury_54 hk4 _ _ _ _ _ h
set_option maxRecDepth 100000 in
set_option maxHeartbeats 4000000 in
theorem w_X1_bury_4 {D : k_D} {dy : Nat → Nat} : ∀ (n : Nat) (x1 : Int32) (x2 : Int32) (x3 : Int32) (S : St) (out : Int32 × St), f_X1_bury_4 n x1 x2 x3 S = some out → Rn yX1_bury cX1_bury 4 (some .int) (k_rm 1) 0 0 D dy S (k_Pi dy out) 4 [(0, .ref (D.2.2 2)), (1, .int x1), (2, .int x2), (3, .int x3)] [] := by
  intro n
  induction n with
  | zero => intro x1 x2 x3 S out h; cases h
  | succ n ih =>
    intro x1 x2 x3 S out h
    rw [f_X1_bury_4] at h
    refine r_iload_n 3 dX1_bury_4 rfl rfl ?_
    refine r_aload_n 0 dX1_bury_5 rfl rfl ?_
    refine gf_2_5 q_211 dX1_bury_6 ?_
    refine r_icmp_ge (t := 60) dX1_bury_9 (by decide) (fun c => ?_) (fun c => ?_)
    · rw [if_pos c] at h
      refine r_sub [0, 2] rfl ?_
      exact w_X1_bury_60 _ _ _ h
    · rw [if_neg c] at h
      refine r_iload_n 3 dX1_bury_12 rfl rfl ?_
      refine r_bipush (v := 16) dX1_bury_13 rfl ?_
      refine r_icmp_ge (t := 60) dX1_bury_15 (by decide) (fun c => ?_) (fun c => ?_)
      · rw [if_pos c] at h
        refine r_sub [0, 2] rfl ?_
        exact w_X1_bury_60 _ _ _ h
      · rw [if_neg c] at h
        refine r_aload_n 0 dX1_bury_18 rfl rfl ?_
        refine gf_2_0 q_182 dX1_bury_19 ?_
        refine r_iload_n 3 dX1_bury_22 rfl rfl ?_
        obtain ⟨c1, h⟩ := g_ite h
        refine al_3 (k_b_in c1) dX1_bury_23 ?_
        refine r_iload_n 1 dX1_bury_24 rfl rfl ?_
        refine r_icmp_eq (t := 38) dX1_bury_25 (by decide) (fun c => ?_) (fun c => ?_)
        · rw [if_pos c] at h
          exact w_X1_bury_38 ih _ _ _ _ _ h
        · rw [if_neg c] at h
          refine r_aload_n 0 dX1_bury_28 rfl rfl ?_
          refine gf_2_1 q_188 dX1_bury_29 ?_
          refine r_iload_n 3 dX1_bury_32 rfl rfl ?_
          obtain ⟨c2, h⟩ := g_ite h
          refine al_4 (k_b_in c2) dX1_bury_33 ?_
          refine r_iload_n 1 dX1_bury_34 rfl rfl ?_
          refine r_icmp_ne (t := 54) dX1_bury_35 (by decide) (fun c => ?_) (fun c => ?_)
          · rw [if_neg c] at h
            exact w_X1_bury_54 ih _ _ _ _ _ h
          · rw [if_pos c] at h
            exact w_X1_bury_38 ih _ _ _ _ _ h
set_option maxRecDepth 100000 in
set_option maxHeartbeats 4000000 in
theorem w_X1_bury_0 {D : k_D} {dy : Nat → Nat} (x1 : Int32) (S : St) (out : Int32 × St) (h : f_X1_bury x1 S = some out) : Rn yX1_bury cX1_bury 4 (some .int) (k_rm 1) 0 0 D dy S (k_Pi dy out) 0 [(0, .ref (D.2.2 2)), (1, .int x1)] [] := by
    unfold f_X1_bury at h
    refine r_iconst (v := 0) dX1_bury_0 rfl ?_
    refine r_istore_n dX1_bury_1 rfl (by decide) rfl ?_
    refine r_iconst (v := 0) dX1_bury_2 rfl ?_
    refine r_istore_n dX1_bury_3 rfl (by decide) rfl ?_
    refine r_sub [2, 3, 1, 0] rfl ?_
    exact w_X1_bury_4 _ _ _ _ _ _ h
theorem ok_X1_bury {D : k_D} {dy : Nat → Nat} {x1 : Int32} {S : St} {out : Int32 × St} (h : f_X1_bury x1 S = some out) : Sp yX1_bury cX1_bury 4 (some .int) (k_rm 1) D dy S [.ref (D.2.2 2), .int x1] (k_Pi dy out) := Sp.of (by decide +kernel) (Nat.le_of_ble_eq_true rfl) (w_X1_bury_0 _ S out h)
noncomputable def f_X1_allHalves_33 (x1 : Int32) (S : St) : Option (Int32 × St) := some (x1, S)
noncomputable def f_X1_allHalves_4 : Nat → Int32 → Int32 → St → Option (Int32 × St)
  | 0, _, _, _ => none
  | n + 1, x1, x2, S => if (gI S 1) ≤ x2 then f_X1_allHalves_33 x1 S else if (16 : Int32) ≤ x2 then f_X1_allHalves_33 x1 S else if k_b x2 16 = true then f_X1_allHalves_4 n (x1 + (gA S 6 x2.toNatClampNeg)) (x2 + (1 : Int32)) S else none
noncomputable def f_X1_allHalves (S : St) : Option (Int32 × St) := f_X1_allHalves_4 FU (0 : Int32) (0 : Int32) S
set_option maxRecDepth 100000 in
set_option maxHeartbeats 4000000 in
theorem w_X1_allHalves_33 {D : k_D} {dy : Nat → Nat} (x1 : Int32) (S : St) (out : Int32 × St) (h : f_X1_allHalves_33 x1 S = some out) : Rn yX1_allHalves cX1_allHalves 3 (some .int) (k_rm 0) 0 0 D dy S (k_Pi dy out) 33 [(1, .int x1)] [] := by
    unfold f_X1_allHalves_33 at h
    refine r_iload_n 0 dX1_allHalves_33 rfl rfl ?_
    cases h
    exact r_iret rfl dX1_allHalves_34 ⟨rfl, rfl, rfl⟩
set_option maxRecDepth 100000 in
set_option maxHeartbeats 4000000 in
theorem w_X1_allHalves_4 {D : k_D} {dy : Nat → Nat} : ∀ (n : Nat) (x1 : Int32) (x2 : Int32) (S : St) (out : Int32 × St), f_X1_allHalves_4 n x1 x2 S = some out → Rn yX1_allHalves cX1_allHalves 3 (some .int) (k_rm 0) 0 0 D dy S (k_Pi dy out) 4 [(0, .ref (D.2.2 2)), (1, .int x1), (2, .int x2)] [] := by
  intro n
  induction n with
  | zero => intro x1 x2 S out h; cases h
  | succ n ih =>
    intro x1 x2 S out h
    rw [f_X1_allHalves_4] at h
    refine r_iload_n 2 dX1_allHalves_4 rfl rfl ?_
    refine r_aload_n 0 dX1_allHalves_5 rfl rfl ?_
    refine gf_2_5 q_211 dX1_allHalves_6 ?_
    refine r_icmp_ge (t := 33) dX1_allHalves_9 (by decide) (fun c => ?_) (fun c => ?_)
    · rw [if_pos c] at h
      refine r_sub [1] rfl ?_
      exact w_X1_allHalves_33 _ _ _ h
    · rw [if_neg c] at h
      refine r_iload_n 2 dX1_allHalves_12 rfl rfl ?_
      refine r_bipush (v := 16) dX1_allHalves_13 rfl ?_
      refine r_icmp_ge (t := 33) dX1_allHalves_15 (by decide) (fun c => ?_) (fun c => ?_)
      · rw [if_pos c] at h
        refine r_sub [1] rfl ?_
        exact w_X1_allHalves_33 _ _ _ h
      · rw [if_neg c] at h
        refine r_iload_n 1 dX1_allHalves_18 rfl rfl ?_
        refine r_aload_n 0 dX1_allHalves_19 rfl rfl ?_
        refine gf_2_3 q_201 dX1_allHalves_20 ?_
        refine r_iload_n 2 dX1_allHalves_23 rfl rfl ?_
        obtain ⟨c1, h⟩ := g_ite h
        refine al_6 (k_b_in c1) dX1_allHalves_24 ?_
        refine r_iadd dX1_allHalves_25 ?_
        refine r_istore_n dX1_allHalves_26 rfl (by decide) rfl ?_
        refine r_iinc (q := 2) (v := x2 + (1 : Int32)) dX1_allHalves_27 rfl rfl (by decide) rfl ?_
        refine r_goto (t := 4) dX1_allHalves_30 (by decide) ?_
        refine r_sub [2, 1, 0] rfl ?_
        exact ih _ _ _ _ h
set_option maxRecDepth 100000 in
set_option maxHeartbeats 4000000 in
theorem w_X1_allHalves_0 {D : k_D} {dy : Nat → Nat} (S : St) (out : Int32 × St) (h : f_X1_allHalves S = some out) : Rn yX1_allHalves cX1_allHalves 3 (some .int) (k_rm 0) 0 0 D dy S (k_Pi dy out) 0 [(0, .ref (D.2.2 2))] [] := by
    unfold f_X1_allHalves at h
    refine r_iconst (v := 0) dX1_allHalves_0 rfl ?_
    refine r_istore_n dX1_allHalves_1 rfl (by decide) rfl ?_
    refine r_iconst (v := 0) dX1_allHalves_2 rfl ?_
    refine r_istore_n dX1_allHalves_3 rfl (by decide) rfl ?_
    refine r_sub [2, 1, 0] rfl ?_
    exact w_X1_allHalves_4 _ _ _ _ _ h
theorem ok_X1_allHalves {D : k_D} {dy : Nat → Nat} {S : St} {out : Int32 × St} (h : f_X1_allHalves S = some out) : Sp yX1_allHalves cX1_allHalves 3 (some .int) (k_rm 0) D dy S [.ref (D.2.2 2)] (k_Pi dy out) := Sp.of (by decide +kernel) (Nat.le_of_ble_eq_true rfl) (w_X1_allHalves_0 S out h)
noncomputable def f_X2_isPlayable_56 (s0 : Int32) (S : St) : Option (Int32 × St) := if s0 = 0 ∨ s0 = 1 then some (s0, S) else none
noncomputable def f_X2_isPlayable_55 (S : St) : Option (Int32 × St) := f_X2_isPlayable_56 (0 : Int32) S
noncomputable def f_X2_isPlayable (x1 : Int32) (S : St) : Option (Int32 × St) := (f_X1_has x1 S).bind fun q5 => if q5.1 = 0 then f_X2_isPlayable_55 q5.2 else if k_b x1 16 = true then if (gA q5.2 4 x1.toNatClampNeg) = (gI q5.2 20) then if k_b x1 16 = true then if (gA q5.2 19 x1.toNatClampNeg) = 0 then if k_b x1 16 = true then if (gA q5.2 20 x1.toNatClampNeg) = 0 then f_X2_isPlayable_56 (1 : Int32) q5.2 else f_X2_isPlayable_55 q5.2 else none else f_X2_isPlayable_55 q5.2 else none else f_X2_isPlayable_55 q5.2 else none
set_option maxRecDepth 100000 in
set_option maxHeartbeats 4000000 in
theorem w_X2_isPlayable_56 {D : k_D} {dy : Nat → Nat} (s0 : Int32) (S : St) (out : Int32 × St) (h : f_X2_isPlayable_56 s0 S = some out) : Rn yX2_isPlayable cX2_isPlayable 2 (some .boolean) (k_rm 1) 0 0 D dy S (k_Pi dy out) 56 [] [.int s0] := by
    unfold f_X2_isPlayable_56 at h
    obtain ⟨c, h⟩ := g_ite h
    cases h
    exact r_zret rfl (k_zn c) dX2_isPlayable_56 ⟨rfl, rfl, rfl⟩
set_option maxRecDepth 100000 in
set_option maxHeartbeats 4000000 in
theorem w_X2_isPlayable_55 {D : k_D} {dy : Nat → Nat} (S : St) (out : Int32 × St) (h : f_X2_isPlayable_55 S = some out) : Rn yX2_isPlayable cX2_isPlayable 2 (some .boolean) (k_rm 1) 0 0 D dy S (k_Pi dy out) 55 [] [] := by
    unfold f_X2_isPlayable_55 at h
    refine r_iconst (v := 0) dX2_isPlayable_55 rfl ?_
    exact w_X2_isPlayable_56 _ _ _ h
set_option maxRecDepth 100000 in
set_option maxHeartbeats 4000000 in
theorem w_X2_isPlayable_0 {D : k_D} {dy : Nat → Nat} (x1 : Int32) (S : St) (out : Int32 × St) (h : f_X2_isPlayable x1 S = some out) : Rn yX2_isPlayable cX2_isPlayable 2 (some .boolean) (k_rm 1) 0 0 D dy S (k_Pi dy out) 0 [(0, .ref (D.2.2 32)), (1, .int x1)] [] := by
    unfold f_X2_isPlayable at h
    refine r_aload_n 0 dX2_isPlayable_0 rfl rfl ?_
    refine gf_32_1 q_466 dX2_isPlayable_1 ?_
    refine r_iload_n 1 dX2_isPlayable_4 rfl rfl ?_
    obtain ⟨q5, hq5, h⟩ := g_bind h
    refine r_callVNi [.int x1] [] q5 (ok_X1_has hq5) q_1088 q_680 q_5 q_681 q_143 hd_X1_has (ce_2 D dy _) kc1.1 rfl ⟨Nat.le_of_ble_eq_true rfl, Nat.le_of_ble_eq_true rfl⟩ rfl rfl (Nat.le_of_ble_eq_true rfl) dX2_isPlayable_5 ?_
    refine r_if_eq (t := 55) dX2_isPlayable_8 (by decide) (fun c => ?_) (fun c => ?_)
    · rw [if_pos c] at h
      refine r_sub [] rfl ?_
      exact w_X2_isPlayable_55 _ _ h
    · rw [if_neg c] at h
      refine r_aload_n 0 dX2_isPlayable_11 rfl rfl ?_
      refine gf_32_1 q_466 dX2_isPlayable_12 ?_
      refine gfN_2_1 q_192 dX2_isPlayable_15 ?_
      refine r_iload_n 1 dX2_isPlayable_18 rfl rfl ?_
      obtain ⟨c1, h⟩ := g_ite h
      refine al_4 (k_b_in c1) dX2_isPlayable_19 ?_
      refine r_aload_n 0 dX2_isPlayable_20 rfl rfl ?_
      refine gf_32_9 q_475 dX2_isPlayable_21 ?_
      refine r_icmp_ne (t := 55) dX2_isPlayable_24 (by decide) (fun c => ?_) (fun c => ?_)
      · rw [if_neg c] at h
        refine r_sub [] rfl ?_
        exact w_X2_isPlayable_55 _ _ h
      · rw [if_pos c] at h
        refine r_aload_n 0 dX2_isPlayable_27 rfl rfl ?_
        refine gf_32_2 q_467 dX2_isPlayable_28 ?_
        refine gfN_17_3 q_378 dX2_isPlayable_31 ?_
        refine r_iload_n 1 dX2_isPlayable_34 rfl rfl ?_
        obtain ⟨c2, h⟩ := g_ite h
        refine al_19 (k_b_in c2) dX2_isPlayable_35 ?_
        refine r_if_ne (t := 55) dX2_isPlayable_36 (by decide) (fun c => ?_) (fun c => ?_)
        · rw [if_neg c] at h
          refine r_sub [] rfl ?_
          exact w_X2_isPlayable_55 _ _ h
        · rw [if_pos c] at h
          refine r_aload_n 0 dX2_isPlayable_39 rfl rfl ?_
          refine gf_32_2 q_467 dX2_isPlayable_40 ?_
          refine gfN_17_4 q_381 dX2_isPlayable_43 ?_
          refine r_iload_n 1 dX2_isPlayable_46 rfl rfl ?_
          obtain ⟨c3, h⟩ := g_ite h
          refine al_20 (k_b_in c3) dX2_isPlayable_47 ?_
          refine r_if_ne (t := 55) dX2_isPlayable_48 (by decide) (fun c => ?_) (fun c => ?_)
          · rw [if_neg c] at h
            refine r_sub [] rfl ?_
            exact w_X2_isPlayable_55 _ _ h
          · rw [if_pos c] at h
            refine r_iconst (v := 1) dX2_isPlayable_51 rfl ?_
            refine r_goto (t := 56) dX2_isPlayable_52 (by decide) ?_
            refine r_sub [] rfl ?_
            exact w_X2_isPlayable_56 _ _ _ h
theorem ok_X2_isPlayable {D : k_D} {dy : Nat → Nat} {x1 : Int32} {S : St} {out : Int32 × St} (h : f_X2_isPlayable x1 S = some out) : Sp yX2_isPlayable cX2_isPlayable 2 (some .boolean) (k_rm 1) D dy S [.ref (D.2.2 32), .int x1] (k_Pi dy out) := Sp.of (by decide +kernel) (Nat.le_of_ble_eq_true rfl) (w_X2_isPlayable_0 _ S out h)
noncomputable def f_J6_bitCount_0f7a4 (x0 : Int32) (S : St) : Option (Int32 × St) := some ((((((((x0 - (((x0.toUInt32 >>> ((1 : Int32).toUInt32 &&& Int32.toUInt32 31)).toInt32) &&& (1431655765 : Int32))) &&& (858993459 : Int32)) + ((((x0 - (((x0.toUInt32 >>> ((1 : Int32).toUInt32 &&& Int32.toUInt32 31)).toInt32) &&& (1431655765 : Int32))).toUInt32 >>> ((2 : Int32).toUInt32 &&& Int32.toUInt32 31)).toInt32) &&& (858993459 : Int32))) + (((((x0 - (((x0.toUInt32 >>> ((1 : Int32).toUInt32 &&& Int32.toUInt32 31)).toInt32) &&& (1431655765 : Int32))) &&& (858993459 : Int32)) + ((((x0 - (((x0.toUInt32 >>> ((1 : Int32).toUInt32 &&& Int32.toUInt32 31)).toInt32) &&& (1431655765 : Int32))).toUInt32 >>> ((2 : Int32).toUInt32 &&& Int32.toUInt32 31)).toInt32) &&& (858993459 : Int32))).toUInt32 >>> ((4 : Int32).toUInt32 &&& Int32.toUInt32 31)).toInt32)) &&& (252645135 : Int32)) + (((((((x0 - (((x0.toUInt32 >>> ((1 : Int32).toUInt32 &&& Int32.toUInt32 31)).toInt32) &&& (1431655765 : Int32))) &&& (858993459 : Int32)) + ((((x0 - (((x0.toUInt32 >>> ((1 : Int32).toUInt32 &&& Int32.toUInt32 31)).toInt32) &&& (1431655765 : Int32))).toUInt32 >>> ((2 : Int32).toUInt32 &&& Int32.toUInt32 31)).toInt32) &&& (858993459 : Int32))) + (((((x0 - (((x0.toUInt32 >>> ((1 : Int32).toUInt32 &&& Int32.toUInt32 31)).toInt32) &&& (1431655765 : Int32))) &&& (858993459 : Int32)) + ((((x0 - (((x0.toUInt32 >>> ((1 : Int32).toUInt32 &&& Int32.toUInt32 31)).toInt32) &&& (1431655765 : Int32))).toUInt32 >>> ((2 : Int32).toUInt32 &&& Int32.toUInt32 31)).toInt32) &&& (858993459 : Int32))).toUInt32 >>> ((4 : Int32).toUInt32 &&& Int32.toUInt32 31)).toInt32)) &&& (252645135 : Int32)).toUInt32 >>> ((8 : Int32).toUInt32 &&& Int32.toUInt32 31)).toInt32)) + ((((((((x0 - (((x0.toUInt32 >>> ((1 : Int32).toUInt32 &&& Int32.toUInt32 31)).toInt32) &&& (1431655765 : Int32))) &&& (858993459 : Int32)) + ((((x0 - (((x0.toUInt32 >>> ((1 : Int32).toUInt32 &&& Int32.toUInt32 31)).toInt32) &&& (1431655765 : Int32))).toUInt32 >>> ((2 : Int32).toUInt32 &&& Int32.toUInt32 31)).toInt32) &&& (858993459 : Int32))) + (((((x0 - (((x0.toUInt32 >>> ((1 : Int32).toUInt32 &&& Int32.toUInt32 31)).toInt32) &&& (1431655765 : Int32))) &&& (858993459 : Int32)) + ((((x0 - (((x0.toUInt32 >>> ((1 : Int32).toUInt32 &&& Int32.toUInt32 31)).toInt32) &&& (1431655765 : Int32))).toUInt32 >>> ((2 : Int32).toUInt32 &&& Int32.toUInt32 31)).toInt32) &&& (858993459 : Int32))).toUInt32 >>> ((4 : Int32).toUInt32 &&& Int32.toUInt32 31)).toInt32)) &&& (252645135 : Int32)) + (((((((x0 - (((x0.toUInt32 >>> ((1 : Int32).toUInt32 &&& Int32.toUInt32 31)).toInt32) &&& (1431655765 : Int32))) &&& (858993459 : Int32)) + ((((x0 - (((x0.toUInt32 >>> ((1 : Int32).toUInt32 &&& Int32.toUInt32 31)).toInt32) &&& (1431655765 : Int32))).toUInt32 >>> ((2 : Int32).toUInt32 &&& Int32.toUInt32 31)).toInt32) &&& (858993459 : Int32))) + (((((x0 - (((x0.toUInt32 >>> ((1 : Int32).toUInt32 &&& Int32.toUInt32 31)).toInt32) &&& (1431655765 : Int32))) &&& (858993459 : Int32)) + ((((x0 - (((x0.toUInt32 >>> ((1 : Int32).toUInt32 &&& Int32.toUInt32 31)).toInt32) &&& (1431655765 : Int32))).toUInt32 >>> ((2 : Int32).toUInt32 &&& Int32.toUInt32 31)).toInt32) &&& (858993459 : Int32))).toUInt32 >>> ((4 : Int32).toUInt32 &&& Int32.toUInt32 31)).toInt32)) &&& (252645135 : Int32)).toUInt32 >>> ((8 : Int32).toUInt32 &&& Int32.toUInt32 31)).toInt32)).toUInt32 >>> ((16 : Int32).toUInt32 &&& Int32.toUInt32 31)).toInt32)) &&& (63 : Int32), S)
set_option maxRecDepth 100000 in
set_option maxHeartbeats 4000000 in
theorem w_J6_bitCount_0f7a4_0 {D : k_D} {dy : Nat → Nat} (x0 : Int32) (S : St) (out : Int32 × St) (h : f_J6_bitCount_0f7a4 x0 S = some out) : Rn yJ6_bitCount_0f7a4 cJ6_bitCount_0f7a4 1 (some .int) (k_rm 0) 0 0 D dy S (k_Pi dy out) 0 [(0, .int x0)] [] := by
    unfold f_J6_bitCount_0f7a4 at h
    refine r_iload_n 0 dJ6_bitCount_0f7a4_0 rfl rfl ?_
    refine r_iload_n 0 dJ6_bitCount_0f7a4_1 rfl rfl ?_
    refine r_iconst (v := 1) dJ6_bitCount_0f7a4_2 rfl ?_
    refine r_iushr dJ6_bitCount_0f7a4_3 rfl ?_
    refine r_ldcw (v := 1431655765) q_1019 dJ6_bitCount_0f7a4_4 ?_
    refine r_iand dJ6_bitCount_0f7a4_7 ?_
    refine r_isub dJ6_bitCount_0f7a4_8 ?_
    refine r_istore_n dJ6_bitCount_0f7a4_9 rfl (by decide) rfl ?_
    refine r_iload_n 0 dJ6_bitCount_0f7a4_10 rfl rfl ?_
    refine r_ldcw (v := 858993459) q_1020 dJ6_bitCount_0f7a4_11 ?_
    refine r_iand dJ6_bitCount_0f7a4_14 ?_
    refine r_iload_n 0 dJ6_bitCount_0f7a4_15 rfl rfl ?_
    refine r_iconst (v := 2) dJ6_bitCount_0f7a4_16 rfl ?_
    refine r_iushr dJ6_bitCount_0f7a4_17 rfl ?_
    refine r_ldcw (v := 858993459) q_1020 dJ6_bitCount_0f7a4_18 ?_
    refine r_iand dJ6_bitCount_0f7a4_21 ?_
    refine r_iadd dJ6_bitCount_0f7a4_22 ?_
    refine r_istore_n dJ6_bitCount_0f7a4_23 rfl (by decide) rfl ?_
    refine r_iload_n 0 dJ6_bitCount_0f7a4_24 rfl rfl ?_
    refine r_iload_n 0 dJ6_bitCount_0f7a4_25 rfl rfl ?_
    refine r_iconst (v := 4) dJ6_bitCount_0f7a4_26 rfl ?_
    refine r_iushr dJ6_bitCount_0f7a4_27 rfl ?_
    refine r_iadd dJ6_bitCount_0f7a4_28 ?_
    refine r_ldcw (v := 252645135) q_1021 dJ6_bitCount_0f7a4_29 ?_
    refine r_iand dJ6_bitCount_0f7a4_32 ?_
    refine r_istore_n dJ6_bitCount_0f7a4_33 rfl (by decide) rfl ?_
    refine r_iload_n 0 dJ6_bitCount_0f7a4_34 rfl rfl ?_
    refine r_iload_n 0 dJ6_bitCount_0f7a4_35 rfl rfl ?_
    refine r_bipush (v := 8) dJ6_bitCount_0f7a4_36 rfl ?_
    refine r_iushr dJ6_bitCount_0f7a4_38 rfl ?_
    refine r_iadd dJ6_bitCount_0f7a4_39 ?_
    refine r_istore_n dJ6_bitCount_0f7a4_40 rfl (by decide) rfl ?_
    refine r_iload_n 0 dJ6_bitCount_0f7a4_41 rfl rfl ?_
    refine r_iload_n 0 dJ6_bitCount_0f7a4_42 rfl rfl ?_
    refine r_bipush (v := 16) dJ6_bitCount_0f7a4_43 rfl ?_
    refine r_iushr dJ6_bitCount_0f7a4_45 rfl ?_
    refine r_iadd dJ6_bitCount_0f7a4_46 ?_
    refine r_istore_n dJ6_bitCount_0f7a4_47 rfl (by decide) rfl ?_
    refine r_iload_n 0 dJ6_bitCount_0f7a4_48 rfl rfl ?_
    refine r_bipush (v := 63) dJ6_bitCount_0f7a4_49 rfl ?_
    refine r_iand dJ6_bitCount_0f7a4_51 ?_
    cases h
    exact r_iret rfl dJ6_bitCount_0f7a4_52 ⟨rfl, rfl, rfl⟩
theorem ok_J6_bitCount_0f7a4 {D : k_D} {dy : Nat → Nat} {x0 : Int32} {S : St} {out : Int32 × St} (h : f_J6_bitCount_0f7a4 x0 S = some out) : Sp yJ6_bitCount_0f7a4 cJ6_bitCount_0f7a4 1 (some .int) (k_rm 0) D dy S [.int x0] (k_Pi dy out) := Sp.of (by decide +kernel) (Nat.le_of_ble_eq_true rfl) (w_J6_bitCount_0f7a4_0 _ S out h)
noncomputable def f_X2_clear_18 : Nat → Int32 → Int32 → St → Option (St)
  | 0, _, _, _ => none
  | n + 1, x2, x3, S => if x2 ≤ x3 then some S else if k_b x3 1928 = true then k_let (sL S 33 x3.toNatClampNeg (0 : Int64)) fun S2 => if k_b x3 1928 = true then k_let (sL S2 34 x3.toNatClampNeg (0 : Int64)) fun S4 => f_X2_clear_18 n x2 (x3 + (1 : Int32)) S4 else none else none
noncomputable def f_X2_clear (x1 : Int32) (S : St) : Option (St) := f_X2_clear_18 FU (if (1928 : Int32) < ((x1 + (1 : Int32)) * (241 : Int32)) then (1928 : Int32) else ((x1 + (1 : Int32)) * (241 : Int32))) (0 : Int32) S
set_option maxRecDepth 100000 in
set_option maxHeartbeats 4000000 in
theorem w_X2_clear_18 {D : k_D} {dy : Nat → Nat} : ∀ (n : Nat) (x2 : Int32) (x3 : Int32) (S : St) (out : St), f_X2_clear_18 n x2 x3 S = some out → Rn yX2_clear cX2_clear 4 none (k_rm 1) 0 0 D dy S (k_Pv dy out) 18 [(0, .ref (D.2.2 32)), (2, .int x2), (3, .int x3)] [] := by
  intro n
  induction n with
  | zero => intro x2 x3 S out h; cases h
  | succ n ih =>
    intro x2 x3 S out h
    rw [f_X2_clear_18] at h
    refine r_iload_n 2 dX2_clear_18 rfl rfl ?_
    refine r_iload_n 1 dX2_clear_19 rfl rfl ?_
    refine r_icmp_ge (t := 43) dX2_clear_20 (by decide) (fun c => ?_) (fun c => ?_)
    · rw [if_pos c] at h
      exact r_vret rfl dX2_clear_43 ⟨rfl, rfl, Option.some.inj h⟩
    · rw [if_neg c] at h
      refine r_aload_n 0 dX2_clear_23 rfl rfl ?_
      refine gf_32_3 q_468 dX2_clear_24 ?_
      refine r_iload_n 2 dX2_clear_27 rfl rfl ?_
      refine r_lconst (v := 0) dX2_clear_28 rfl ?_
      obtain ⟨c1, h⟩ := g_ite h
      refine as_33 (k_b_in c1) dX2_clear_29 ?_
      generalize sL S 33 x3.toNatClampNeg (0 : Int64) = S2 at h ⊢
      replace h := g_let h
      refine r_aload_n 0 dX2_clear_30 rfl rfl ?_
      refine gf_32_4 q_469 dX2_clear_31 ?_
      refine r_iload_n 2 dX2_clear_34 rfl rfl ?_
      refine r_lconst (v := 0) dX2_clear_35 rfl ?_
      obtain ⟨c3, h⟩ := g_ite h
      refine as_34 (k_b_in c3) dX2_clear_36 ?_
      generalize sL S2 34 x3.toNatClampNeg (0 : Int64) = S4 at h ⊢
      replace h := g_let h
      refine r_iinc (q := 2) (v := x3 + (1 : Int32)) dX2_clear_37 rfl rfl (by decide) rfl ?_
      refine r_goto (t := 18) dX2_clear_40 (by decide) ?_
      refine r_sub [1, 2, 0] rfl ?_
      exact ih _ _ _ _ h
set_option maxRecDepth 100000 in
set_option maxHeartbeats 4000000 in
theorem w_X2_clear_0 {D : k_D} {dy : Nat → Nat} (x1 : Int32) (S : St) (out : St) (h : f_X2_clear x1 S = some out) : Rn yX2_clear cX2_clear 4 none (k_rm 1) 0 0 D dy S (k_Pv dy out) 0 [(0, .ref (D.2.2 32)), (1, .int x1)] [] := by
    unfold f_X2_clear at h
    refine r_iload_n 1 dX2_clear_0 rfl rfl ?_
    refine r_iconst (v := 1) dX2_clear_1 rfl ?_
    refine r_iadd dX2_clear_2 ?_
    refine r_sipush (v := 241) dX2_clear_3 rfl ?_
    refine r_imul dX2_clear_6 ?_
    refine r_aload_n 0 dX2_clear_7 rfl rfl ?_
    refine gf_32_3 q_468 dX2_clear_8 ?_
    refine ln_33 dX2_clear_11 ?_
    refine r_min q_1090 q_745 q_155 q_746 ⟨Nat.le_of_ble_eq_true rfl, Nat.le_of_ble_eq_true rfl⟩ dX2_clear_12 ?_
    refine r_istore_n dX2_clear_15 rfl (by decide) rfl ?_
    refine r_iconst (v := 0) dX2_clear_16 rfl ?_
    refine r_istore_n dX2_clear_17 rfl (by decide) rfl ?_
    refine r_sub [2, 1, 0] rfl ?_
    exact w_X2_clear_18 _ _ _ _ _ h
theorem ok_X2_clear {D : k_D} {dy : Nat → Nat} {x1 : Int32} {S : St} {out : St} (h : f_X2_clear x1 S = some out) : Sp yX2_clear cX2_clear 4 none (k_rm 1) D dy S [.ref (D.2.2 32), .int x1] (k_Pv dy out) := Sp.of (by decide +kernel) (Nat.le_of_ble_eq_true rfl) (w_X2_clear_0 _ S out h)
noncomputable def f_X2_placeOf_24 (s0 : Int32) (S : St) : Option (Int32 × St) := some (s0, S)
noncomputable def f_X2_placeOf_23 (S : St) : Option (Int32 × St) := f_X2_placeOf_24 (0 : Int32) S
noncomputable def f_X2_placeOf (x0 : Int32) (x1 : Int32) (S : St) : Option (Int32 × St) := if ((x0 * (241 : Int32)) + x1) < 0 then f_X2_placeOf_23 S else if (1928 : Int32) ≤ ((x0 * (241 : Int32)) + x1) then f_X2_placeOf_23 S else f_X2_placeOf_24 ((x0 * (241 : Int32)) + x1) S
set_option maxRecDepth 100000 in
set_option maxHeartbeats 4000000 in
theorem w_X2_placeOf_24 {D : k_D} {dy : Nat → Nat} (s0 : Int32) (S : St) (out : Int32 × St) (h : f_X2_placeOf_24 s0 S = some out) : Rn yX2_placeOf cX2_placeOf 3 (some .int) (k_rm 0) 0 0 D dy S (k_Pi dy out) 24 [] [.int s0] := by
    unfold f_X2_placeOf_24 at h
    cases h
    exact r_iret rfl dX2_placeOf_24 ⟨rfl, rfl, rfl⟩
set_option maxRecDepth 100000 in
set_option maxHeartbeats 4000000 in
theorem w_X2_placeOf_23 {D : k_D} {dy : Nat → Nat} (S : St) (out : Int32 × St) (h : f_X2_placeOf_23 S = some out) : Rn yX2_placeOf cX2_placeOf 3 (some .int) (k_rm 0) 0 0 D dy S (k_Pi dy out) 23 [] [] := by
    unfold f_X2_placeOf_23 at h
    refine r_iconst (v := 0) dX2_placeOf_23 rfl ?_
    exact w_X2_placeOf_24 _ _ _ h
set_option maxRecDepth 100000 in
set_option maxHeartbeats 4000000 in
theorem w_X2_placeOf_0 {D : k_D} {dy : Nat → Nat} (x0 : Int32) (x1 : Int32) (S : St) (out : Int32 × St) (h : f_X2_placeOf x0 x1 S = some out) : Rn yX2_placeOf cX2_placeOf 3 (some .int) (k_rm 0) 0 0 D dy S (k_Pi dy out) 0 [(0, .int x0), (1, .int x1)] [] := by
    unfold f_X2_placeOf at h
    refine r_iload_n 0 dX2_placeOf_0 rfl rfl ?_
    refine r_sipush (v := 241) dX2_placeOf_1 rfl ?_
    refine r_imul dX2_placeOf_4 ?_
    refine r_iload_n 1 dX2_placeOf_5 rfl rfl ?_
    refine r_iadd dX2_placeOf_6 ?_
    refine r_istore_n dX2_placeOf_7 rfl (by decide) rfl ?_
    refine r_iload_n 0 dX2_placeOf_8 rfl rfl ?_
    refine r_if_lt (t := 23) dX2_placeOf_9 (by decide) (fun c => ?_) (fun c => ?_)
    · rw [if_pos c] at h
      refine r_sub [] rfl ?_
      exact w_X2_placeOf_23 _ _ h
    · rw [if_neg c] at h
      refine r_iload_n 0 dX2_placeOf_12 rfl rfl ?_
      refine r_sipush (v := 1928) dX2_placeOf_13 rfl ?_
      refine r_icmp_ge (t := 23) dX2_placeOf_16 (by decide) (fun c => ?_) (fun c => ?_)
      · rw [if_pos c] at h
        refine r_sub [] rfl ?_
        exact w_X2_placeOf_23 _ _ h
      · rw [if_neg c] at h
        refine r_iload_n 0 dX2_placeOf_19 rfl rfl ?_
        refine r_goto (t := 24) dX2_placeOf_20 (by decide) ?_
        refine r_sub [] rfl ?_
        exact w_X2_placeOf_24 _ _ _ h
theorem ok_X2_placeOf {D : k_D} {dy : Nat → Nat} {x0 : Int32} {x1 : Int32} {S : St} {out : Int32 × St} (h : f_X2_placeOf x0 x1 S = some out) : Sp yX2_placeOf cX2_placeOf 3 (some .int) (k_rm 0) D dy S [.int x0, .int x1] (k_Pi dy out) := Sp.of (by decide +kernel) (Nat.le_of_ble_eq_true rfl) (w_X2_placeOf_0 _ _ S out h)
noncomputable def f_X2_read_144 (S : St) : Option (St) := some S
noncomputable def f_X2_read_138 (k17 : Int64 → Int32 → St → Option (St)) (x1 : Int64) (x3 : Int32) (S : St) : Option (St) := k17 x1 (x3 + (1 : Int32)) S
noncomputable def f_X2_read_62 (k17 : Int64 → Int32 → St → Option (St)) (x1 : Int64) (x3 : Int32) (s0 : Int32) (S : St) : Option (St) := if k_b x3 16 = true then k_let (sA S 38 x3.toNatClampNeg s0) fun S2 => if s0 ≤ 0 then f_X2_read_138 k17 x1 x3 S2 else if k_b x3 16 = true then k_let (sI S2 22 ((gI S2 22) + (s0 * (gA S2 18 x3.toNatClampNeg)))) fun S4 => if k_b x3 16 = true then k_let (sI S4 23 ((gI S4 23) ||| ((1 : Int32) <<< ((gA S4 3 x3.toNatClampNeg) &&& 31)))) fun S6 => (f_X10_lengthOfDebt x3 S6).bind fun q130 => k_let (sI q130.2 24 ((gI S6 24) + (s0 * q130.1))) fun S7 => f_X2_read_138 k17 x1 x3 S7 else none else none else none
noncomputable def f_X2_read_17 : Nat → Int64 → Int32 → St → Option (St)
  | 0, _, _, _ => none
  | n + 1, x1, x3, S => if (gI S 1) ≤ x3 then f_X2_read_144 S else if (16 : Int32) ≤ x3 then f_X2_read_144 S else if k_b x3 16 = true then if (gL S 37 x3.toNatClampNeg) ≤ (0 : Int64) then f_X2_read_62 (f_X2_read_17 n) x1 x3 (0 : Int32) S else if ¬ (gL S 37 x3.toNatClampNeg) = 0 then f_X2_read_62 (f_X2_read_17 n) x1 x3 (((x1 / (gL S 37 x3.toNatClampNeg)) - (x1 / (gL S 37 x3.toNatClampNeg)) / (10 : Int64) * (10 : Int64)).toInt32) S else none else none
noncomputable def f_X2_read (x1 : Int64) (S : St) : Option (St) := k_let (sI S 22 (0 : Int32)) fun S1 => k_let (sI S1 23 (0 : Int32)) fun S2 => k_let (sI S2 24 (0 : Int32)) fun S3 => f_X2_read_17 FU x1 (0 : Int32) S3
set_option maxRecDepth 100000 in
set_option maxHeartbeats 4000000 in
theorem w_X2_read_144 {D : k_D} {dy : Nat → Nat} (S : St) (out : St) (h : f_X2_read_144 S = some out) : Rn yX2_read cX2_read 7 none (k_rm 1) 0 0 D dy S (k_Pv dy out) 144 [] [] := by
    unfold f_X2_read_144 at h
    exact r_vret rfl dX2_read_144 ⟨rfl, rfl, Option.some.inj h⟩
set_option maxRecDepth 100000 in
set_option maxHeartbeats 4000000 in
theorem w_X2_read_138 {D : k_D} {dy : Nat → Nat} {k17 : Int64 → Int32 → St → Option (St)} (hk17 : ∀ (x1 : Int64) (x3 : Int32) (S : St) (out : St), k17 x1 x3 S = some out → Rn yX2_read cX2_read 7 none (k_rm 1) 0 0 D dy S (k_Pv dy out) 17 [(0, .ref (D.2.2 32)), (1, .long x1), (3, .int x3)] []) (x1 : Int64) (x3 : Int32) (S : St) (out : St) (h : f_X2_read_138 k17 x1 x3 S = some out) : Rn yX2_read cX2_read 7 none (k_rm 1) 0 0 D dy S (k_Pv dy out) 138 [(0, .ref (D.2.2 32)), (1, .long x1), (3, .int x3)] [] := by
    unfold f_X2_read_138 at h
    refine r_iinc (q := 2) (v := x3 + (1 : Int32)) dX2_read_138 rfl rfl (by decide) rfl ?_
    refine r_goto (t := 17) dX2_read_141 (by decide) ?_
    refine r_sub [1, 2, 0] rfl ?_
    exact hk17 _ _ _ _ h
set_option maxRecDepth 100000 in
set_option maxHeartbeats 4000000 in
theorem w_X2_read_62 {D : k_D} {dy : Nat → Nat} {k17 : Int64 → Int32 → St → Option (St)} (hk17 : ∀ (x1 : Int64) (x3 : Int32) (S : St) (out : St), k17 x1 x3 S = some out → Rn yX2_read cX2_read 7 none (k_rm 1) 0 0 D dy S (k_Pv dy out) 17 [(0, .ref (D.2.2 32)), (1, .long x1), (3, .int x3)] []) (x1 : Int64) (x3 : Int32) (s0 : Int32) (S : St) (out : St) (h : f_X2_read_62 k17 x1 x3 s0 S = some out) : Rn yX2_read cX2_read 7 none (k_rm 1) 0 0 D dy S (k_Pv dy out) 62 [(0, .ref (D.2.2 32)), (1, .long x1), (3, .int x3)] [.int s0] := by
    unfold f_X2_read_62 at h
    refine r_istore dX2_read_62 (by decide) rfl ?_
    refine r_aload_n 1 dX2_read_64 rfl rfl ?_
    refine gf_32_8 q_473 dX2_read_65 ?_
    refine r_iload_n 3 dX2_read_68 rfl rfl ?_
    refine r_iload 0 dX2_read_69 rfl ?_
    obtain ⟨c1, h⟩ := g_ite h
    refine as_38 (k_b_in c1) dX2_read_71 ?_
    generalize sA S 38 x3.toNatClampNeg s0 = S2 at h ⊢
    replace h := g_let h
    refine r_iload 0 dX2_read_72 rfl ?_
    refine r_if_le (t := 138) dX2_read_74 (by decide) (fun c => ?_) (fun c => ?_)
    · rw [if_pos c] at h
      refine r_sub [1, 2, 3] rfl ?_
      exact w_X2_read_138 hk17 _ _ _ _ h
    · rw [if_neg c] at h
      refine r_aload_n 1 dX2_read_77 rfl rfl ?_
      refine r_dup dX2_read_78 rfl ?_
      refine gf_32_11 q_477 dX2_read_79 ?_
      refine r_iload 0 dX2_read_82 rfl ?_
      refine r_aload_n 1 dX2_read_84 rfl rfl ?_
      refine gf_32_2 q_467 dX2_read_85 ?_
      refine gfN_17_2 q_373 dX2_read_88 ?_
      refine r_iload_n 3 dX2_read_91 rfl rfl ?_
      obtain ⟨c3, h⟩ := g_ite h
      refine al_18 (k_b_in c3) dX2_read_92 ?_
      refine r_imul dX2_read_93 ?_
      refine r_iadd dX2_read_94 ?_
      refine pf_32_11 q_477 dX2_read_95 ?_
      generalize sI S2 22 ((gI S2 22) + (s0 * (gA S2 18 x3.toNatClampNeg))) = S4 at h ⊢
      replace h := g_let h
      refine r_aload_n 1 dX2_read_98 rfl rfl ?_
      refine r_dup dX2_read_99 rfl ?_
      refine gf_32_12 q_479 dX2_read_100 ?_
      refine r_iconst (v := 1) dX2_read_103 rfl ?_
      refine r_aload_n 1 dX2_read_104 rfl rfl ?_
      refine gf_32_1 q_466 dX2_read_105 ?_
      refine gfN_2_0 q_186 dX2_read_108 ?_
      refine r_iload_n 3 dX2_read_111 rfl rfl ?_
      obtain ⟨c5, h⟩ := g_ite h
      refine al_3 (k_b_in c5) dX2_read_112 ?_
      refine r_ishl dX2_read_113 ?_
      refine r_ior dX2_read_114 ?_
      refine pf_32_12 q_479 dX2_read_115 ?_
      generalize sI S4 23 ((gI S4 23) ||| ((1 : Int32) <<< ((gA S4 3 x3.toNatClampNeg) &&& 31))) = S6 at h ⊢
      replace h := g_let h
      refine r_aload_n 1 dX2_read_118 rfl rfl ?_
      refine r_dup dX2_read_119 rfl ?_
      refine gf_32_13 q_481 dX2_read_120 ?_
      refine r_iload 0 dX2_read_123 rfl ?_
      refine r_aload_n 1 dX2_read_125 rfl rfl ?_
      refine gf_32_0 q_465 dX2_read_126 ?_
      refine r_iload_n 3 dX2_read_129 rfl rfl ?_
      obtain ⟨q130, hq130, h⟩ := g_bind h
      refine r_callVNi [.int x3] [.int s0, .int (gI S6 24), .ref (D.2.2 32)] q130 (ok_X10_lengthOfDebt hq130) q_1089 q_705 q_10 q_706 q_142 hd_X10_lengthOfDebt (ce_0 D dy _) kc10.1 rfl ⟨Nat.le_of_ble_eq_true rfl, Nat.le_of_ble_eq_true rfl⟩ rfl rfl (Nat.le_of_ble_eq_true rfl) dX2_read_130 ?_
      refine r_imul dX2_read_133 ?_
      refine r_iadd dX2_read_134 ?_
      refine pf_32_13 q_481 dX2_read_135 ?_
      generalize sI q130.2 24 ((gI S6 24) + (s0 * q130.1)) = S7 at h ⊢
      replace h := g_let h
      refine r_sub [1, 2, 3] rfl ?_
      exact w_X2_read_138 hk17 _ _ _ _ h
set_option maxRecDepth 100000 in
set_option maxHeartbeats 4000000 in
theorem w_X2_read_17 {D : k_D} {dy : Nat → Nat} : ∀ (n : Nat) (x1 : Int64) (x3 : Int32) (S : St) (out : St), f_X2_read_17 n x1 x3 S = some out → Rn yX2_read cX2_read 7 none (k_rm 1) 0 0 D dy S (k_Pv dy out) 17 [(0, .ref (D.2.2 32)), (1, .long x1), (3, .int x3)] [] := by
  intro n
  induction n with
  | zero => intro x1 x3 S out h; cases h
  | succ n ih =>
    intro x1 x3 S out h
    rw [f_X2_read_17] at h
    refine r_iload_n 2 dX2_read_17 rfl rfl ?_
    refine r_aload_n 0 dX2_read_18 rfl rfl ?_
    refine gf_32_1 q_466 dX2_read_19 ?_
    refine gfN_2_5 q_215 dX2_read_22 ?_
    refine r_icmp_ge (t := 144) dX2_read_25 (by decide) (fun c => ?_) (fun c => ?_)
    · rw [if_pos c] at h
      refine r_sub [] rfl ?_
      exact w_X2_read_144 _ _ h
    · rw [if_neg c] at h
      refine r_iload_n 2 dX2_read_28 rfl rfl ?_
      refine r_bipush (v := 16) dX2_read_29 rfl ?_
      refine r_icmp_ge (t := 144) dX2_read_31 (by decide) (fun c => ?_) (fun c => ?_)
      · rw [if_pos c] at h
        refine r_sub [] rfl ?_
        exact w_X2_read_144 _ _ h
      · rw [if_neg c] at h
        refine r_aload_n 0 dX2_read_34 rfl rfl ?_
        refine gf_32_7 q_472 dX2_read_35 ?_
        refine r_iload_n 2 dX2_read_38 rfl rfl ?_
        obtain ⟨c1, h⟩ := g_ite h
        refine al_37 (k_b_in c1) dX2_read_39 ?_
        refine r_lstore dX2_read_40 (by decide) rfl ?_
        refine r_lload 0 dX2_read_42 rfl ?_
        refine r_lconst (v := 0) dX2_read_44 rfl ?_
        refine r_lcmp dX2_read_45 ?_
        refine r_if_le (t := 61) dX2_read_46 (by decide) (fun c => ?_) (fun c => ?_)
        · rw [if_pos (lc_le.mp c)] at h
          refine r_iconst (v := 0) dX2_read_61 rfl ?_
          refine r_sub [1, 2, 3] rfl ?_
          exact w_X2_read_62 ih _ _ _ _ _ h
        · rw [if_neg (fun z => c (lc_le.mpr z))] at h
          refine r_lload_n 2 dX2_read_49 rfl rfl ?_
          refine r_lload 0 dX2_read_50 rfl ?_
          obtain ⟨c2, h⟩ := g_ite h
          refine r_ldiv dX2_read_52 c2 ?_
          refine r_ldc2 (v := 10) q_464 dX2_read_53 ?_
          refine r_lrem dX2_read_56 (by decide) ?_
          refine r_l2i dX2_read_57 ?_
          refine r_goto (t := 62) dX2_read_58 (by decide) ?_
          refine r_sub [1, 2, 3] rfl ?_
          exact w_X2_read_62 ih _ _ _ _ _ h
set_option maxRecDepth 100000 in
set_option maxHeartbeats 4000000 in
theorem w_X2_read_0 {D : k_D} {dy : Nat → Nat} (x1 : Int64) (S : St) (out : St) (h : f_X2_read x1 S = some out) : Rn yX2_read cX2_read 7 none (k_rm 1) 0 0 D dy S (k_Pv dy out) 0 [(0, .ref (D.2.2 32)), (1, .long x1)] [] := by
    unfold f_X2_read at h
    refine r_aload_n 0 dX2_read_0 rfl rfl ?_
    refine r_iconst (v := 0) dX2_read_1 rfl ?_
    refine pf_32_11 q_477 dX2_read_2 ?_
    generalize sI S 22 (0 : Int32) = S1 at h ⊢
    replace h := g_let h
    refine r_aload_n 0 dX2_read_5 rfl rfl ?_
    refine r_iconst (v := 0) dX2_read_6 rfl ?_
    refine pf_32_12 q_479 dX2_read_7 ?_
    generalize sI S1 23 (0 : Int32) = S2 at h ⊢
    replace h := g_let h
    refine r_aload_n 0 dX2_read_10 rfl rfl ?_
    refine r_iconst (v := 0) dX2_read_11 rfl ?_
    refine pf_32_13 q_481 dX2_read_12 ?_
    generalize sI S2 24 (0 : Int32) = S3 at h ⊢
    replace h := g_let h
    refine r_iconst (v := 0) dX2_read_15 rfl ?_
    refine r_istore_n dX2_read_16 rfl (by decide) rfl ?_
    refine r_sub [1, 2, 0] rfl ?_
    exact w_X2_read_17 _ _ _ _ _ h
theorem ok_X2_read {D : k_D} {dy : Nat → Nat} {x1 : Int64} {S : St} {out : St} (h : f_X2_read x1 S = some out) : Sp yX2_read cX2_read 7 none (k_rm 1) D dy S [.ref (D.2.2 32), .long x1] (k_Pv dy out) := Sp.of (by decide +kernel) (Nat.le_of_ble_eq_true rfl) (w_X2_read_0 _ S out h)
noncomputable def f_X2_isBetter_26 (s0 : Int32) (S : St) : Option (Int32 × St) := if s0 = 0 ∨ s0 = 1 then some (s0, S) else none
noncomputable def f_X2_isBetter_21 (S : St) : Option (Int32 × St) := f_X2_isBetter_26 (1 : Int32) S
noncomputable def f_X2_isBetter_25 (S : St) : Option (Int32 × St) := f_X2_isBetter_26 (0 : Int32) S
noncomputable def f_X2_isBetter (x0 : Int64) (x2 : Int64) (x4 : Int64) (x6 : Int64) (S : St) : Option (Int32 × St) := if x4 < x0 then f_X2_isBetter_21 S else if x0 = x4 then if x6 ≤ x2 then f_X2_isBetter_25 S else f_X2_isBetter_21 S else f_X2_isBetter_25 S
set_option maxRecDepth 100000 in
set_option maxHeartbeats 4000000 in
theorem w_X2_isBetter_26 {D : k_D} {dy : Nat → Nat} (s0 : Int32) (S : St) (out : Int32 × St) (h : f_X2_isBetter_26 s0 S = some out) : Rn yX2_isBetter cX2_isBetter 8 (some .boolean) (k_rm 0) 0 0 D dy S (k_Pi dy out) 26 [] [.int s0] := by
    unfold f_X2_isBetter_26 at h
    obtain ⟨c, h⟩ := g_ite h
    cases h
    exact r_zret rfl (k_zn c) dX2_isBetter_26 ⟨rfl, rfl, rfl⟩
set_option maxRecDepth 100000 in
set_option maxHeartbeats 4000000 in
theorem w_X2_isBetter_21 {D : k_D} {dy : Nat → Nat} (S : St) (out : Int32 × St) (h : f_X2_isBetter_21 S = some out) : Rn yX2_isBetter cX2_isBetter 8 (some .boolean) (k_rm 0) 0 0 D dy S (k_Pi dy out) 21 [] [] := by
    unfold f_X2_isBetter_21 at h
    refine r_iconst (v := 1) dX2_isBetter_21 rfl ?_
    refine r_goto (t := 26) dX2_isBetter_22 (by decide) ?_
    exact w_X2_isBetter_26 _ _ _ h
set_option maxRecDepth 100000 in
set_option maxHeartbeats 4000000 in
theorem w_X2_isBetter_25 {D : k_D} {dy : Nat → Nat} (S : St) (out : Int32 × St) (h : f_X2_isBetter_25 S = some out) : Rn yX2_isBetter cX2_isBetter 8 (some .boolean) (k_rm 0) 0 0 D dy S (k_Pi dy out) 25 [] [] := by
    unfold f_X2_isBetter_25 at h
    refine r_iconst (v := 0) dX2_isBetter_25 rfl ?_
    exact w_X2_isBetter_26 _ _ _ h
set_option maxRecDepth 100000 in
set_option maxHeartbeats 4000000 in
theorem w_X2_isBetter_0 {D : k_D} {dy : Nat → Nat} (x0 : Int64) (x2 : Int64) (x4 : Int64) (x6 : Int64) (S : St) (out : Int32 × St) (h : f_X2_isBetter x0 x2 x4 x6 S = some out) : Rn yX2_isBetter cX2_isBetter 8 (some .boolean) (k_rm 0) 0 0 D dy S (k_Pi dy out) 0 [(0, .long x0), (2, .long x2), (4, .long x4), (6, .long x6)] [] := by
    unfold f_X2_isBetter at h
    refine r_lload_n 0 dX2_isBetter_0 rfl rfl ?_
    refine r_lload 2 dX2_isBetter_1 rfl ?_
    refine r_lcmp dX2_isBetter_3 ?_
    refine r_if_gt (t := 21) dX2_isBetter_4 (by decide) (fun c => ?_) (fun c => ?_)
    · rw [if_pos (lc_gt.mp c)] at h
      refine r_sub [] rfl ?_
      exact w_X2_isBetter_21 _ _ h
    · rw [if_neg (fun z => c (lc_gt.mpr z))] at h
      refine r_lload_n 0 dX2_isBetter_7 rfl rfl ?_
      refine r_lload 2 dX2_isBetter_8 rfl ?_
      refine r_lcmp dX2_isBetter_10 ?_
      refine r_if_ne (t := 25) dX2_isBetter_11 (by decide) (fun c => ?_) (fun c => ?_)
      · rw [if_neg (fun z => c (lc_eq.mpr z))] at h
        refine r_sub [] rfl ?_
        exact w_X2_isBetter_25 _ _ h
      · rw [if_pos (lc_eq.mp c)] at h
        refine r_lload_n 1 dX2_isBetter_14 rfl rfl ?_
        refine r_lload 3 dX2_isBetter_15 rfl ?_
        refine r_lcmp dX2_isBetter_17 ?_
        refine r_if_ge (t := 25) dX2_isBetter_18 (by decide) (fun c => ?_) (fun c => ?_)
        · rw [if_pos (lc_ge.mp c)] at h
          refine r_sub [] rfl ?_
          exact w_X2_isBetter_25 _ _ h
        · rw [if_neg (fun z => c (lc_ge.mpr z))] at h
          refine r_sub [] rfl ?_
          exact w_X2_isBetter_21 _ _ h
theorem ok_X2_isBetter {D : k_D} {dy : Nat → Nat} {x0 : Int64} {x2 : Int64} {x4 : Int64} {x6 : Int64} {S : St} {out : Int32 × St} (h : f_X2_isBetter x0 x2 x4 x6 S = some out) : Sp yX2_isBetter cX2_isBetter 8 (some .boolean) (k_rm 0) D dy S [.long x0, .long x2, .long x4, .long x6] (k_Pi dy out) := Sp.of (by decide +kernel) (Nat.le_of_ble_eq_true rfl) (w_X2_isBetter_0 _ _ _ _ S out h)
noncomputable def f_X2_offerBundle_26 (S : St) : Option (St) := some S
noncomputable def f_X2_offerBundle_148 (k72 : Int32 → Int64 → Int64 → Int32 → St → Option (St)) (x3 : Int32) (x4 : Int64) (x6 : Int64) (x8 : Int32) (S : St) : Option (St) := k72 x3 x4 x6 (x8 + (-1 : Int32)) S
noncomputable def f_X2_offerBundle_72 : Nat → Int32 → Int64 → Int64 → Int32 → St → Option (St)
  | 0, _, _, _, _, _ => none
  | n + 1, x3, x4, x6, x8, S => if x8 < x3 then some S else if k_b (x8 - x3) 241 = true then if k_b (x8 - x3) 241 = true then if k_b x8 241 = true then if k_b x8 241 = true then (f_X2_isBetter ((gL S 35 (x8 - x3).toNatClampNeg) + x4) ((gL S 36 (x8 - x3).toNatClampNeg) + x6) (gL S 35 x8.toNatClampNeg) (gL S 36 x8.toNatClampNeg) S).bind fun q124 => if q124.1 = 0 then f_X2_offerBundle_148 (f_X2_offerBundle_72 n) x3 x4 x6 x8 q124.2 else if k_b x8 241 = true then k_let (sL q124.2 35 x8.toNatClampNeg ((gL S 35 (x8 - x3).toNatClampNeg) + x4)) fun S6 => if k_b x8 241 = true then k_let (sL S6 36 x8.toNatClampNeg ((gL S 36 (x8 - x3).toNatClampNeg) + x6)) fun S8 => f_X2_offerBundle_148 (f_X2_offerBundle_72 n) x3 x4 x6 x8 S8 else none else none else none else none else none else none
noncomputable def f_X2_offerBundle (x1 : Int32) (x2 : Int32) (S : St) : Option (St) := (f_X10_lengthOfDebt x1 S).bind fun q6 => if (x2 * q6.1) < (1 : Int32) then f_X2_offerBundle_26 q6.2 else if x1 < 0 then f_X2_offerBundle_26 q6.2 else if x1 < (16 : Int32) then if k_b x1 16 = true then if k_b x1 16 = true then f_X2_offerBundle_72 FU (x2 * q6.1) ((((1048576 : Int64) * x2.toInt64) * ((gA q6.2 18 x1.toNatClampNeg).toInt64)) - ((x2 * q6.1).toInt64)) ((gL q6.2 37 x1.toNatClampNeg) * x2.toInt64) (if (240 : Int32) < (gI q6.2 21) then (240 : Int32) else (gI q6.2 21)) q6.2 else none else none else f_X2_offerBundle_26 q6.2
set_option maxRecDepth 100000 in
set_option maxHeartbeats 4000000 in
theorem w_X2_offerBundle_26 {D : k_D} {dy : Nat → Nat} (S : St) (out : St) (h : f_X2_offerBundle_26 S = some out) : Rn yX2_offerBundle cX2_offerBundle 13 none (k_rm 1) 0 0 D dy S (k_Pv dy out) 26 [] [] := by
    unfold f_X2_offerBundle_26 at h
    exact r_vret rfl dX2_offerBundle_26 ⟨rfl, rfl, Option.some.inj h⟩
set_option maxRecDepth 100000 in
set_option maxHeartbeats 4000000 in
theorem w_X2_offerBundle_148 {D : k_D} {dy : Nat → Nat} {k72 : Int32 → Int64 → Int64 → Int32 → St → Option (St)} (hk72 : ∀ (x3 : Int32) (x4 : Int64) (x6 : Int64) (x8 : Int32) (S : St) (out : St), k72 x3 x4 x6 x8 S = some out → Rn yX2_offerBundle cX2_offerBundle 13 none (k_rm 1) 0 0 D dy S (k_Pv dy out) 72 [(0, .ref (D.2.2 32)), (3, .int x3), (4, .long x4), (6, .long x6), (8, .int x8)] []) (x3 : Int32) (x4 : Int64) (x6 : Int64) (x8 : Int32) (S : St) (out : St) (h : f_X2_offerBundle_148 k72 x3 x4 x6 x8 S = some out) : Rn yX2_offerBundle cX2_offerBundle 13 none (k_rm 1) 0 0 D dy S (k_Pv dy out) 148 [(0, .ref (D.2.2 32)), (3, .int x3), (4, .long x4), (6, .long x6), (8, .int x8)] [] := by
    unfold f_X2_offerBundle_148 at h
    refine r_iinc (q := 4) (v := x8 + (-1 : Int32)) dX2_offerBundle_148 rfl rfl (by decide) rfl ?_
    refine r_goto (t := 72) dX2_offerBundle_151 (by decide) ?_
    refine r_sub [1, 2, 3, 4, 0] rfl ?_
    exact hk72 _ _ _ _ _ _ h
set_option maxRecDepth 100000 in
set_option maxHeartbeats 4000000 in
theorem w_X2_offerBundle_72 {D : k_D} {dy : Nat → Nat} : ∀ (n : Nat) (x3 : Int32) (x4 : Int64) (x6 : Int64) (x8 : Int32) (S : St) (out : St), f_X2_offerBundle_72 n x3 x4 x6 x8 S = some out → Rn yX2_offerBundle cX2_offerBundle 13 none (k_rm 1) 0 0 D dy S (k_Pv dy out) 72 [(0, .ref (D.2.2 32)), (3, .int x3), (4, .long x4), (6, .long x6), (8, .int x8)] [] := by
  intro n
  induction n with
  | zero => intro x3 x4 x6 x8 S out h; cases h
  | succ n ih =>
    intro x3 x4 x6 x8 S out h
    rw [f_X2_offerBundle_72] at h
    refine r_iload 4 dX2_offerBundle_72 rfl ?_
    refine r_iload_n 1 dX2_offerBundle_74 rfl rfl ?_
    refine r_icmp_lt (t := 154) dX2_offerBundle_75 (by decide) (fun c => ?_) (fun c => ?_)
    · rw [if_pos c] at h
      exact r_vret rfl dX2_offerBundle_154 ⟨rfl, rfl, Option.some.inj h⟩
    · rw [if_neg c] at h
      refine r_aload_n 0 dX2_offerBundle_78 rfl rfl ?_
      refine gf_32_5 q_470 dX2_offerBundle_79 ?_
      refine r_iload 4 dX2_offerBundle_82 rfl ?_
      refine r_iload_n 1 dX2_offerBundle_84 rfl rfl ?_
      refine r_isub dX2_offerBundle_85 ?_
      obtain ⟨c1, h⟩ := g_ite h
      refine al_35 (k_b_in c1) dX2_offerBundle_86 ?_
      refine r_lload 2 dX2_offerBundle_87 rfl ?_
      refine r_ladd dX2_offerBundle_89 ?_
      refine r_lstore dX2_offerBundle_90 (by decide) rfl ?_
      refine r_aload_n 1 dX2_offerBundle_92 rfl rfl ?_
      refine gf_32_6 q_471 dX2_offerBundle_93 ?_
      refine r_iload 5 dX2_offerBundle_96 rfl ?_
      refine r_iload_n 2 dX2_offerBundle_98 rfl rfl ?_
      refine r_isub dX2_offerBundle_99 ?_
      obtain ⟨c2, h⟩ := g_ite h
      refine al_36 (k_b_in c2) dX2_offerBundle_100 ?_
      refine r_lload 4 dX2_offerBundle_101 rfl ?_
      refine r_ladd dX2_offerBundle_103 ?_
      refine r_lstore dX2_offerBundle_104 (by decide) rfl ?_
      refine r_lload 1 dX2_offerBundle_106 rfl ?_
      refine r_lload 0 dX2_offerBundle_108 rfl ?_
      refine r_aload_n 2 dX2_offerBundle_110 rfl rfl ?_
      refine gf_32_5 q_470 dX2_offerBundle_111 ?_
      refine r_iload 6 dX2_offerBundle_114 rfl ?_
      obtain ⟨c3, h⟩ := g_ite h
      refine al_35 (k_b_in c3) dX2_offerBundle_116 ?_
      refine r_aload_n 2 dX2_offerBundle_117 rfl rfl ?_
      refine gf_32_6 q_471 dX2_offerBundle_118 ?_
      refine r_iload 6 dX2_offerBundle_121 rfl ?_
      obtain ⟨c4, h⟩ := g_ite h
      refine al_36 (k_b_in c4) dX2_offerBundle_123 ?_
      obtain ⟨q124, hq124, h⟩ := g_bind h
      refine r_callSi [.long ((gL S 35 (x8 - x3).toNatClampNeg) + x4), .long ((gL S 36 (x8 - x3).toNatClampNeg) + x6), .long (gL S 35 x8.toNatClampNeg), .long (gL S 36 x8.toNatClampNeg)] [] q124 (ok_X2_isBetter hq124) q_1114 q_1115 q_1116 q_149 hd_X2_isBetter ⟨Nat.le_of_ble_eq_true rfl, Nat.le_of_ble_eq_true rfl⟩ rfl rfl (Nat.le_of_ble_eq_true rfl) dX2_offerBundle_124 ?_
      refine r_if_eq (t := 148) dX2_offerBundle_127 (by decide) (fun c => ?_) (fun c => ?_)
      · rw [if_pos c] at h
        refine r_sub [2, 3, 4, 5, 6] rfl ?_
        exact w_X2_offerBundle_148 ih _ _ _ _ _ _ h
      · rw [if_neg c] at h
        refine r_aload_n 2 dX2_offerBundle_130 rfl rfl ?_
        refine gf_32_5 q_470 dX2_offerBundle_131 ?_
        refine r_iload 6 dX2_offerBundle_134 rfl ?_
        refine r_lload 1 dX2_offerBundle_136 rfl ?_
        obtain ⟨c5, h⟩ := g_ite h
        refine as_35 (k_b_in c5) dX2_offerBundle_138 ?_
        generalize sL q124.2 35 x8.toNatClampNeg ((gL S 35 (x8 - x3).toNatClampNeg) + x4) = S6 at h ⊢
        replace h := g_let h
        refine r_aload_n 2 dX2_offerBundle_139 rfl rfl ?_
        refine gf_32_6 q_471 dX2_offerBundle_140 ?_
        refine r_iload 6 dX2_offerBundle_143 rfl ?_
        refine r_lload 0 dX2_offerBundle_145 rfl ?_
        obtain ⟨c7, h⟩ := g_ite h
        refine as_36 (k_b_in c7) dX2_offerBundle_147 ?_
        generalize sL S6 36 x8.toNatClampNeg ((gL S 36 (x8 - x3).toNatClampNeg) + x6) = S8 at h ⊢
        replace h := g_let h
        refine r_sub [2, 3, 4, 5, 6] rfl ?_
        exact w_X2_offerBundle_148 ih _ _ _ _ _ _ h
set_option maxRecDepth 100000 in
set_option maxHeartbeats 4000000 in
theorem w_X2_offerBundle_0 {D : k_D} {dy : Nat → Nat} (x1 : Int32) (x2 : Int32) (S : St) (out : St) (h : f_X2_offerBundle x1 x2 S = some out) : Rn yX2_offerBundle cX2_offerBundle 13 none (k_rm 1) 0 0 D dy S (k_Pv dy out) 0 [(0, .ref (D.2.2 32)), (1, .int x1), (2, .int x2)] [] := by
    unfold f_X2_offerBundle at h
    refine r_iload_n 2 dX2_offerBundle_0 rfl rfl ?_
    refine r_aload_n 0 dX2_offerBundle_1 rfl rfl ?_
    refine gf_32_0 q_465 dX2_offerBundle_2 ?_
    refine r_iload_n 1 dX2_offerBundle_5 rfl rfl ?_
    obtain ⟨q6, hq6, h⟩ := g_bind h
    refine r_callVNi [.int x1] [.int x2] q6 (ok_X10_lengthOfDebt hq6) q_1089 q_705 q_10 q_706 q_142 hd_X10_lengthOfDebt (ce_0 D dy _) kc10.1 rfl ⟨Nat.le_of_ble_eq_true rfl, Nat.le_of_ble_eq_true rfl⟩ rfl rfl (Nat.le_of_ble_eq_true rfl) dX2_offerBundle_6 ?_
    refine r_imul dX2_offerBundle_9 ?_
    refine r_istore_n dX2_offerBundle_10 rfl (by decide) rfl ?_
    refine r_iload_n 0 dX2_offerBundle_11 rfl rfl ?_
    refine r_iconst (v := 1) dX2_offerBundle_12 rfl ?_
    refine r_icmp_lt (t := 26) dX2_offerBundle_13 (by decide) (fun c => ?_) (fun c => ?_)
    · rw [if_pos c] at h
      refine r_sub [] rfl ?_
      exact w_X2_offerBundle_26 _ _ h
    · rw [if_neg c] at h
      refine r_iload_n 2 dX2_offerBundle_16 rfl rfl ?_
      refine r_if_lt (t := 26) dX2_offerBundle_17 (by decide) (fun c => ?_) (fun c => ?_)
      · rw [if_pos c] at h
        refine r_sub [] rfl ?_
        exact w_X2_offerBundle_26 _ _ h
      · rw [if_neg c] at h
        refine r_iload_n 2 dX2_offerBundle_20 rfl rfl ?_
        refine r_bipush (v := 16) dX2_offerBundle_21 rfl ?_
        refine r_icmp_lt (t := 27) dX2_offerBundle_23 (by decide) (fun c => ?_) (fun c => ?_)
        · rw [if_pos c] at h
          refine r_ldc2 (v := 1048576) q_1113 dX2_offerBundle_27 ?_
          refine r_iload_n 3 dX2_offerBundle_30 rfl rfl ?_
          refine r_i2l dX2_offerBundle_31 ?_
          refine r_lmul dX2_offerBundle_32 ?_
          refine r_aload_n 1 dX2_offerBundle_33 rfl rfl ?_
          refine gf_32_2 q_467 dX2_offerBundle_34 ?_
          refine gfN_17_2 q_373 dX2_offerBundle_37 ?_
          refine r_iload_n 2 dX2_offerBundle_40 rfl rfl ?_
          obtain ⟨c1, h⟩ := g_ite h
          refine al_18 (k_b_in c1) dX2_offerBundle_41 ?_
          refine r_i2l dX2_offerBundle_42 ?_
          refine r_lmul dX2_offerBundle_43 ?_
          refine r_iload_n 0 dX2_offerBundle_44 rfl rfl ?_
          refine r_i2l dX2_offerBundle_45 ?_
          refine r_lsub dX2_offerBundle_46 ?_
          refine r_lstore dX2_offerBundle_47 (by decide) rfl ?_
          refine r_aload_n 2 dX2_offerBundle_49 rfl rfl ?_
          refine gf_32_7 q_472 dX2_offerBundle_50 ?_
          refine r_iload_n 3 dX2_offerBundle_53 rfl rfl ?_
          obtain ⟨c2, h⟩ := g_ite h
          refine al_37 (k_b_in c2) dX2_offerBundle_54 ?_
          refine r_iload_n 4 dX2_offerBundle_55 rfl rfl ?_
          refine r_i2l dX2_offerBundle_56 ?_
          refine r_lmul dX2_offerBundle_57 ?_
          refine r_lstore dX2_offerBundle_58 (by decide) rfl ?_
          refine r_aload_n 3 dX2_offerBundle_60 rfl rfl ?_
          refine gf_32_10 q_476 dX2_offerBundle_61 ?_
          refine r_sipush (v := 240) dX2_offerBundle_64 rfl ?_
          refine r_min q_1090 q_745 q_155 q_746 ⟨Nat.le_of_ble_eq_true rfl, Nat.le_of_ble_eq_true rfl⟩ dX2_offerBundle_67 ?_
          refine r_istore dX2_offerBundle_70 (by decide) rfl ?_
          refine r_sub [4, 3, 2, 1, 0] rfl ?_
          exact w_X2_offerBundle_72 _ _ _ _ _ _ _ h
        · rw [if_neg c] at h
          refine r_sub [] rfl ?_
          exact w_X2_offerBundle_26 _ _ h
theorem ok_X2_offerBundle {D : k_D} {dy : Nat → Nat} {x1 : Int32} {x2 : Int32} {S : St} {out : St} (h : f_X2_offerBundle x1 x2 S = some out) : Sp yX2_offerBundle cX2_offerBundle 13 none (k_rm 1) D dy S [.ref (D.2.2 32), .int x1, .int x2] (k_Pv dy out) := Sp.of (by decide +kernel) (Nat.le_of_ble_eq_true rfl) (w_X2_offerBundle_0 _ _ S out h)
noncomputable def f_X2_offer_63 (S : St) : Option (St) := some S
noncomputable def f_X2_offer_27 : Nat → Int32 → Int32 → Int32 → St → Option (St)
  | 0, _, _, _, _ => none
  | n + 1, x1, x2, x3, S => if x2 ≤ 0 then f_X2_offer_63 S else if (9 : Int32) < x3 then f_X2_offer_63 S else (f_X2_offerBundle x1 (if x2 < x3 then x2 else x3) S).bind fun q48 => f_X2_offer_27 n x1 (x2 - (if x2 < x3 then x2 else x3)) (x3 * (2 : Int32)) q48
noncomputable def f_X2_offer_24 (x1 : Int32) (s0 : Int32) (S : St) : Option (St) := f_X2_offer_27 FU x1 s0 (1 : Int32) S
noncomputable def f_X2_offer (x1 : Int32) (S : St) : Option (St) := (f_X1_has x1 S).bind fun q5 => if q5.1 = 0 then f_X2_offer_24 x1 (0 : Int32) q5.2 else if k_b x1 16 = true then f_X2_offer_24 x1 (gA q5.2 6 x1.toNatClampNeg) q5.2 else none
set_option maxRecDepth 100000 in
set_option maxHeartbeats 4000000 in
theorem w_X2_offer_63 {D : k_D} {dy : Nat → Nat} (S : St) (out : St) (h : f_X2_offer_63 S = some out) : Rn yX2_offer cX2_offer 5 none (k_rm 2) 0 0 D dy S (k_Pv dy out) 63 [] [] := by
    unfold f_X2_offer_63 at h
    exact r_vret rfl dX2_offer_63 ⟨rfl, rfl, Option.some.inj h⟩
set_option maxRecDepth 100000 in
set_option maxHeartbeats 4000000 in
theorem w_X2_offer_27 {D : k_D} {dy : Nat → Nat} : ∀ (n : Nat) (x1 : Int32) (x2 : Int32) (x3 : Int32) (S : St) (out : St), f_X2_offer_27 n x1 x2 x3 S = some out → Rn yX2_offer cX2_offer 5 none (k_rm 2) 0 0 D dy S (k_Pv dy out) 27 [(0, .ref (D.2.2 32)), (1, .int x1), (2, .int x2), (3, .int x3)] [] := by
  intro n
  induction n with
  | zero => intro x1 x2 x3 S out h; cases h
  | succ n ih =>
    intro x1 x2 x3 S out h
    rw [f_X2_offer_27] at h
    refine r_iload_n 2 dX2_offer_27 rfl rfl ?_
    refine r_if_le (t := 63) dX2_offer_28 (by decide) (fun c => ?_) (fun c => ?_)
    · rw [if_pos c] at h
      refine r_sub [] rfl ?_
      exact w_X2_offer_63 _ _ h
    · rw [if_neg c] at h
      refine r_iload_n 3 dX2_offer_31 rfl rfl ?_
      refine r_bipush (v := 9) dX2_offer_32 rfl ?_
      refine r_icmp_gt (t := 63) dX2_offer_34 (by decide) (fun c => ?_) (fun c => ?_)
      · rw [if_pos c] at h
        refine r_sub [] rfl ?_
        exact w_X2_offer_63 _ _ h
      · rw [if_neg c] at h
        refine r_iload_n 3 dX2_offer_37 rfl rfl ?_
        refine r_iload_n 2 dX2_offer_38 rfl rfl ?_
        refine r_min q_1090 q_745 q_155 q_746 ⟨Nat.le_of_ble_eq_true rfl, Nat.le_of_ble_eq_true rfl⟩ dX2_offer_39 ?_
        refine r_istore dX2_offer_42 (by decide) rfl ?_
        refine r_aload_n 1 dX2_offer_44 rfl rfl ?_
        refine r_iload_n 2 dX2_offer_45 rfl rfl ?_
        refine r_iload 0 dX2_offer_46 rfl ?_
        obtain ⟨q48, hq48, h⟩ := g_bind h
        refine r_callVv [.int x1, .int (if x2 < x3 then x2 else x3)] [] q48 (ok_X2_offerBundle hq48) q_1109 q_1111 q_63 q_1112 q_149 hd_X2_offerBundle (ce_32 D dy _) kc2.1 rfl ⟨Nat.le_of_ble_eq_true rfl, Nat.le_of_ble_eq_true rfl⟩ rfl rfl (Nat.le_of_ble_eq_true rfl) dX2_offer_48 ?_
        refine r_iload_n 3 dX2_offer_51 rfl rfl ?_
        refine r_iload 0 dX2_offer_52 rfl ?_
        refine r_isub dX2_offer_54 ?_
        refine r_istore_n dX2_offer_55 rfl (by decide) rfl ?_
        refine r_iload_n 4 dX2_offer_56 rfl rfl ?_
        refine r_iconst (v := 2) dX2_offer_57 rfl ?_
        refine r_imul dX2_offer_58 ?_
        refine r_istore_n dX2_offer_59 rfl (by decide) rfl ?_
        refine r_goto (t := 27) dX2_offer_60 (by decide) ?_
        refine r_sub [3, 4, 1, 0] rfl ?_
        exact ih _ _ _ _ _ h
set_option maxRecDepth 100000 in
set_option maxHeartbeats 4000000 in
theorem w_X2_offer_24 {D : k_D} {dy : Nat → Nat} (x1 : Int32) (s0 : Int32) (S : St) (out : St) (h : f_X2_offer_24 x1 s0 S = some out) : Rn yX2_offer cX2_offer 5 none (k_rm 2) 0 0 D dy S (k_Pv dy out) 24 [(0, .ref (D.2.2 32)), (1, .int x1)] [.int s0] := by
    unfold f_X2_offer_24 at h
    refine r_istore_n dX2_offer_24 rfl (by decide) rfl ?_
    refine r_iconst (v := 1) dX2_offer_25 rfl ?_
    refine r_istore_n dX2_offer_26 rfl (by decide) rfl ?_
    refine r_sub [2, 3, 1, 0] rfl ?_
    exact w_X2_offer_27 _ _ _ _ _ _ h
set_option maxRecDepth 100000 in
set_option maxHeartbeats 4000000 in
theorem w_X2_offer_0 {D : k_D} {dy : Nat → Nat} (x1 : Int32) (S : St) (out : St) (h : f_X2_offer x1 S = some out) : Rn yX2_offer cX2_offer 5 none (k_rm 2) 0 0 D dy S (k_Pv dy out) 0 [(0, .ref (D.2.2 32)), (1, .int x1)] [] := by
    unfold f_X2_offer at h
    refine r_aload_n 0 dX2_offer_0 rfl rfl ?_
    refine gf_32_1 q_466 dX2_offer_1 ?_
    refine r_iload_n 1 dX2_offer_4 rfl rfl ?_
    obtain ⟨q5, hq5, h⟩ := g_bind h
    refine r_callVNi [.int x1] [] q5 (ok_X1_has hq5) q_1088 q_680 q_5 q_681 q_143 hd_X1_has (ce_2 D dy _) kc1.1 rfl ⟨Nat.le_of_ble_eq_true rfl, Nat.le_of_ble_eq_true rfl⟩ rfl rfl (Nat.le_of_ble_eq_true rfl) dX2_offer_5 ?_
    refine r_if_eq (t := 23) dX2_offer_8 (by decide) (fun c => ?_) (fun c => ?_)
    · rw [if_pos c] at h
      refine r_iconst (v := 0) dX2_offer_23 rfl ?_
      exact w_X2_offer_24 _ _ _ _ h
    · rw [if_neg c] at h
      refine r_aload_n 0 dX2_offer_11 rfl rfl ?_
      refine gf_32_1 q_466 dX2_offer_12 ?_
      refine gfN_2_3 q_204 dX2_offer_15 ?_
      refine r_iload_n 1 dX2_offer_18 rfl rfl ?_
      obtain ⟨c1, h⟩ := g_ite h
      refine al_6 (k_b_in c1) dX2_offer_19 ?_
      refine r_goto (t := 24) dX2_offer_20 (by decide) ?_
      exact w_X2_offer_24 _ _ _ _ h
theorem ok_X2_offer {D : k_D} {dy : Nat → Nat} {x1 : Int32} {S : St} {out : St} (h : f_X2_offer x1 S = some out) : Sp yX2_offer cX2_offer 5 none (k_rm 2) D dy S [.ref (D.2.2 32), .int x1] (k_Pv dy out) := Sp.of (by decide +kernel) (Nat.le_of_ble_eq_true rfl) (w_X2_offer_0 _ S out h)
noncomputable def f_X2_join_231 (S : St) : Option (St) := some S
noncomputable def f_X2_join_225 (k138 : Int32 → Int32 → St → Option (St)) (x3 : Int32) (x6 : Int32) (S : St) : Option (St) := k138 x3 (x6 + (1 : Int32)) S
noncomputable def f_X2_join_138 : Nat → Int32 → Int32 → St → Option (St)
  | 0, _, _, _ => none
  | n + 1, x3, x6, S => if (gI S 21) < x6 then f_X2_join_231 S else if (241 : Int32) ≤ x6 then f_X2_join_231 S else (f_X2_placeOf x3 x6 S).bind fun q158 => if k_b x6 241 = true then if k_b x6 241 = true then if k_b q158.1 1928 = true then if k_b q158.1 1928 = true then (f_X2_isBetter (gL q158.2 35 x6.toNatClampNeg) (gL q158.2 36 x6.toNatClampNeg) (gL q158.2 33 q158.1.toNatClampNeg) (gL q158.2 34 q158.1.toNatClampNeg) q158.2).bind fun q191 => if q191.1 = 0 then f_X2_join_225 (f_X2_join_138 n) x3 x6 q191.2 else if k_b x6 241 = true then if k_b q158.1 1928 = true then k_let (sL q191.2 33 q158.1.toNatClampNeg (gL q191.2 35 x6.toNatClampNeg)) fun S7 => if k_b x6 241 = true then if k_b q158.1 1928 = true then k_let (sL S7 34 q158.1.toNatClampNeg (gL S7 36 x6.toNatClampNeg)) fun S10 => f_X2_join_225 (f_X2_join_138 n) x3 x6 S10 else none else none else none else none else none else none else none else none
noncomputable def f_X2_join_135 (x3 : Int32) (S : St) : Option (St) := f_X2_join_138 FU x3 (0 : Int32) S
noncomputable def f_X2_join_129 (k81 : Int32 → Int32 → Int32 → St → Option (St)) (x1 : Int32) (x3 : Int32) (x6 : Int32) (S : St) : Option (St) := k81 x1 x3 (x6 + (1 : Int32)) S
noncomputable def f_X2_join_81 : Nat → Int32 → Int32 → Int32 → St → Option (St)
  | 0, _, _, _, _ => none
  | n + 1, x1, x3, x6, S => if (gI S 1) ≤ x6 then f_X2_join_135 x3 S else if (16 : Int32) ≤ x6 then f_X2_join_135 x3 S else (f_X2_isPlayable x6 S).bind fun q103 => if q103.1 = 0 then f_X2_join_129 (f_X2_join_81 n) x1 x3 x6 q103.2 else if k_b x6 16 = true then if (gA q103.2 3 x6.toNatClampNeg) = x1 then (f_X2_offer x6 q103.2).bind fun q126 => f_X2_join_129 (f_X2_join_81 n) x1 x3 x6 q126 else f_X2_join_129 (f_X2_join_81 n) x1 x3 x6 q103.2 else none
noncomputable def f_X2_join_78 (x1 : Int32) (x3 : Int32) (S : St) : Option (St) := f_X2_join_81 FU x1 x3 (0 : Int32) S
noncomputable def f_X2_join_16 : Nat → Int32 → Int32 → Int32 → Int64 → Int32 → St → Option (St)
  | 0, _, _, _, _, _, _ => none
  | n + 1, x1, x2, x3, x4, x6, S => if (gI S 21) < x6 then f_X2_join_78 x1 x3 S else if (241 : Int32) ≤ x6 then f_X2_join_78 x1 x3 S else (f_X2_placeOf x2 x6 S).bind fun q36 => if k_b q36.1 1928 = true then if k_b x6 241 = true then k_let (sL q36.2 35 x6.toNatClampNeg ((gL q36.2 33 q36.1.toNatClampNeg) - x4)) fun S3 => if k_b q36.1 1928 = true then if k_b x6 241 = true then k_let (sL S3 36 x6.toNatClampNeg (gL S3 34 q36.1.toNatClampNeg)) fun S6 => f_X2_join_16 n x1 x2 x3 x4 (x6 + (1 : Int32)) S6 else none else none else none else none
noncomputable def f_X2_join (x1 : Int32) (x2 : Int32) (x3 : Int32) (S : St) : Option (St) := f_X2_join_16 FU x1 x2 x3 ((65536 : Int64) + ((256 : Int64) * ((1 : Int64) <<< (x1.toInt64 &&& 63)))) (0 : Int32) S
set_option maxRecDepth 100000 in
set_option maxHeartbeats 4000000 in
theorem w_X2_join_231 {D : k_D} {dy : Nat → Nat} (S : St) (out : St) (h : f_X2_join_231 S = some out) : Rn yX2_join cX2_join 8 none (k_rm 3) 0 0 D dy S (k_Pv dy out) 231 [] [] := by
    unfold f_X2_join_231 at h
    exact r_vret rfl dX2_join_231 ⟨rfl, rfl, Option.some.inj h⟩
set_option maxRecDepth 100000 in
set_option maxHeartbeats 4000000 in
theorem w_X2_join_225 {D : k_D} {dy : Nat → Nat} {k138 : Int32 → Int32 → St → Option (St)} (hk138 : ∀ (x3 : Int32) (x6 : Int32) (S : St) (out : St), k138 x3 x6 S = some out → Rn yX2_join cX2_join 8 none (k_rm 3) 0 0 D dy S (k_Pv dy out) 138 [(0, .ref (D.2.2 32)), (3, .int x3), (6, .int x6)] []) (x3 : Int32) (x6 : Int32) (S : St) (out : St) (h : f_X2_join_225 k138 x3 x6 S = some out) : Rn yX2_join cX2_join 8 none (k_rm 3) 0 0 D dy S (k_Pv dy out) 225 [(0, .ref (D.2.2 32)), (3, .int x3), (6, .int x6)] [] := by
    unfold f_X2_join_225 at h
    refine r_iinc (q := 2) (v := x6 + (1 : Int32)) dX2_join_225 rfl rfl (by decide) rfl ?_
    refine r_goto (t := 138) dX2_join_228 (by decide) ?_
    refine r_sub [1, 2, 0] rfl ?_
    exact hk138 _ _ _ _ h
set_option maxRecDepth 100000 in
set_option maxHeartbeats 4000000 in
theorem w_X2_join_138 {D : k_D} {dy : Nat → Nat} : ∀ (n : Nat) (x3 : Int32) (x6 : Int32) (S : St) (out : St), f_X2_join_138 n x3 x6 S = some out → Rn yX2_join cX2_join 8 none (k_rm 3) 0 0 D dy S (k_Pv dy out) 138 [(0, .ref (D.2.2 32)), (3, .int x3), (6, .int x6)] [] := by
  intro n
  induction n with
  | zero => intro x3 x6 S out h; cases h
  | succ n ih =>
    intro x3 x6 S out h
    rw [f_X2_join_138] at h
    refine r_iload 2 dX2_join_138 rfl ?_
    refine r_aload_n 0 dX2_join_140 rfl rfl ?_
    refine gf_32_10 q_476 dX2_join_141 ?_
    refine r_icmp_gt (t := 231) dX2_join_144 (by decide) (fun c => ?_) (fun c => ?_)
    · rw [if_pos c] at h
      refine r_sub [] rfl ?_
      exact w_X2_join_231 _ _ h
    · rw [if_neg c] at h
      refine r_iload 2 dX2_join_147 rfl ?_
      refine r_sipush (v := 241) dX2_join_149 rfl ?_
      refine r_icmp_ge (t := 231) dX2_join_152 (by decide) (fun c => ?_) (fun c => ?_)
      · rw [if_pos c] at h
        refine r_sub [] rfl ?_
        exact w_X2_join_231 _ _ h
      · rw [if_neg c] at h
        refine r_iload_n 1 dX2_join_155 rfl rfl ?_
        refine r_iload 2 dX2_join_156 rfl ?_
        obtain ⟨q158, hq158, h⟩ := g_bind h
        refine r_callSi [.int x3, .int x6] [] q158 (ok_X2_placeOf hq158) q_1102 q_1103 q_1104 q_149 hd_X2_placeOf ⟨Nat.le_of_ble_eq_true rfl, Nat.le_of_ble_eq_true rfl⟩ rfl rfl (Nat.le_of_ble_eq_true rfl) dX2_join_158 ?_
        refine r_istore dX2_join_161 (by decide) rfl ?_
        refine r_aload_n 1 dX2_join_163 rfl rfl ?_
        refine gf_32_5 q_470 dX2_join_164 ?_
        refine r_iload 3 dX2_join_167 rfl ?_
        obtain ⟨c1, h⟩ := g_ite h
        refine al_35 (k_b_in c1) dX2_join_169 ?_
        refine r_aload_n 1 dX2_join_170 rfl rfl ?_
        refine gf_32_6 q_471 dX2_join_171 ?_
        refine r_iload 3 dX2_join_174 rfl ?_
        obtain ⟨c2, h⟩ := g_ite h
        refine al_36 (k_b_in c2) dX2_join_176 ?_
        refine r_aload_n 1 dX2_join_177 rfl rfl ?_
        refine gf_32_3 q_468 dX2_join_178 ?_
        refine r_iload 0 dX2_join_181 rfl ?_
        obtain ⟨c3, h⟩ := g_ite h
        refine al_33 (k_b_in c3) dX2_join_183 ?_
        refine r_aload_n 1 dX2_join_184 rfl rfl ?_
        refine gf_32_4 q_469 dX2_join_185 ?_
        refine r_iload 0 dX2_join_188 rfl ?_
        obtain ⟨c4, h⟩ := g_ite h
        refine al_34 (k_b_in c4) dX2_join_190 ?_
        obtain ⟨q191, hq191, h⟩ := g_bind h
        refine r_callSi [.long (gL q158.2 35 x6.toNatClampNeg), .long (gL q158.2 36 x6.toNatClampNeg), .long (gL q158.2 33 q158.1.toNatClampNeg), .long (gL q158.2 34 q158.1.toNatClampNeg)] [] q191 (ok_X2_isBetter hq191) q_1114 q_1115 q_1116 q_149 hd_X2_isBetter ⟨Nat.le_of_ble_eq_true rfl, Nat.le_of_ble_eq_true rfl⟩ rfl rfl (Nat.le_of_ble_eq_true rfl) dX2_join_191 ?_
        refine r_if_eq (t := 225) dX2_join_194 (by decide) (fun c => ?_) (fun c => ?_)
        · rw [if_pos c] at h
          refine r_sub [1, 2, 3] rfl ?_
          exact w_X2_join_225 ih _ _ _ _ h
        · rw [if_neg c] at h
          refine r_aload_n 1 dX2_join_197 rfl rfl ?_
          refine gf_32_3 q_468 dX2_join_198 ?_
          refine r_iload 0 dX2_join_201 rfl ?_
          refine r_aload_n 1 dX2_join_203 rfl rfl ?_
          refine gf_32_5 q_470 dX2_join_204 ?_
          refine r_iload 3 dX2_join_207 rfl ?_
          obtain ⟨c5, h⟩ := g_ite h
          refine al_35 (k_b_in c5) dX2_join_209 ?_
          obtain ⟨c6, h⟩ := g_ite h
          refine as_33 (k_b_in c6) dX2_join_210 ?_
          generalize sL q191.2 33 q158.1.toNatClampNeg (gL q191.2 35 x6.toNatClampNeg) = S7 at h ⊢
          replace h := g_let h
          refine r_aload_n 1 dX2_join_211 rfl rfl ?_
          refine gf_32_4 q_469 dX2_join_212 ?_
          refine r_iload 0 dX2_join_215 rfl ?_
          refine r_aload_n 1 dX2_join_217 rfl rfl ?_
          refine gf_32_6 q_471 dX2_join_218 ?_
          refine r_iload 3 dX2_join_221 rfl ?_
          obtain ⟨c8, h⟩ := g_ite h
          refine al_36 (k_b_in c8) dX2_join_223 ?_
          obtain ⟨c9, h⟩ := g_ite h
          refine as_34 (k_b_in c9) dX2_join_224 ?_
          generalize sL S7 34 q158.1.toNatClampNeg (gL S7 36 x6.toNatClampNeg) = S10 at h ⊢
          replace h := g_let h
          refine r_sub [1, 2, 3] rfl ?_
          exact w_X2_join_225 ih _ _ _ _ h
set_option maxRecDepth 100000 in
set_option maxHeartbeats 4000000 in
theorem w_X2_join_135 {D : k_D} {dy : Nat → Nat} (x3 : Int32) (S : St) (out : St) (h : f_X2_join_135 x3 S = some out) : Rn yX2_join cX2_join 8 none (k_rm 3) 0 0 D dy S (k_Pv dy out) 135 [(0, .ref (D.2.2 32)), (3, .int x3)] [] := by
    unfold f_X2_join_135 at h
    refine r_iconst (v := 0) dX2_join_135 rfl ?_
    refine r_istore dX2_join_136 (by decide) rfl ?_
    refine r_sub [1, 2, 0] rfl ?_
    exact w_X2_join_138 _ _ _ _ _ h
set_option maxRecDepth 100000 in
set_option maxHeartbeats 4000000 in
theorem w_X2_join_129 {D : k_D} {dy : Nat → Nat} {k81 : Int32 → Int32 → Int32 → St → Option (St)} (hk81 : ∀ (x1 : Int32) (x3 : Int32) (x6 : Int32) (S : St) (out : St), k81 x1 x3 x6 S = some out → Rn yX2_join cX2_join 8 none (k_rm 3) 0 0 D dy S (k_Pv dy out) 81 [(0, .ref (D.2.2 32)), (1, .int x1), (3, .int x3), (6, .int x6)] []) (x1 : Int32) (x3 : Int32) (x6 : Int32) (S : St) (out : St) (h : f_X2_join_129 k81 x1 x3 x6 S = some out) : Rn yX2_join cX2_join 8 none (k_rm 3) 0 0 D dy S (k_Pv dy out) 129 [(0, .ref (D.2.2 32)), (1, .int x1), (3, .int x3), (6, .int x6)] [] := by
    unfold f_X2_join_129 at h
    refine r_iinc (q := 3) (v := x6 + (1 : Int32)) dX2_join_129 rfl rfl (by decide) rfl ?_
    refine r_goto (t := 81) dX2_join_132 (by decide) ?_
    refine r_sub [1, 2, 3, 0] rfl ?_
    exact hk81 _ _ _ _ _ h
set_option maxRecDepth 100000 in
set_option maxHeartbeats 4000000 in
theorem w_X2_join_81 {D : k_D} {dy : Nat → Nat} : ∀ (n : Nat) (x1 : Int32) (x3 : Int32) (x6 : Int32) (S : St) (out : St), f_X2_join_81 n x1 x3 x6 S = some out → Rn yX2_join cX2_join 8 none (k_rm 3) 0 0 D dy S (k_Pv dy out) 81 [(0, .ref (D.2.2 32)), (1, .int x1), (3, .int x3), (6, .int x6)] [] := by
  intro n
  induction n with
  | zero => intro x1 x3 x6 S out h; cases h
  | succ n ih =>
    intro x1 x3 x6 S out h
    rw [f_X2_join_81] at h
    refine r_iload 3 dX2_join_81 rfl ?_
    refine r_aload_n 0 dX2_join_83 rfl rfl ?_
    refine gf_32_1 q_466 dX2_join_84 ?_
    refine gfN_2_5 q_215 dX2_join_87 ?_
    refine r_icmp_ge (t := 135) dX2_join_90 (by decide) (fun c => ?_) (fun c => ?_)
    · rw [if_pos c] at h
      refine r_sub [0, 2] rfl ?_
      exact w_X2_join_135 _ _ _ h
    · rw [if_neg c] at h
      refine r_iload 3 dX2_join_93 rfl ?_
      refine r_bipush (v := 16) dX2_join_95 rfl ?_
      refine r_icmp_ge (t := 135) dX2_join_97 (by decide) (fun c => ?_) (fun c => ?_)
      · rw [if_pos c] at h
        refine r_sub [0, 2] rfl ?_
        exact w_X2_join_135 _ _ _ h
      · rw [if_neg c] at h
        refine r_aload_n 0 dX2_join_100 rfl rfl ?_
        refine r_iload 3 dX2_join_101 rfl ?_
        obtain ⟨q103, hq103, h⟩ := g_bind h
        refine r_callVi [.int x6] [] q103 (ok_X2_isPlayable hq103) q_1084 q_1086 q_59 q_1087 q_149 hd_X2_isPlayable (ce_32 D dy _) kc2.1 rfl ⟨Nat.le_of_ble_eq_true rfl, Nat.le_of_ble_eq_true rfl⟩ rfl rfl (Nat.le_of_ble_eq_true rfl) dX2_join_103 ?_
        refine r_if_eq (t := 129) dX2_join_106 (by decide) (fun c => ?_) (fun c => ?_)
        · rw [if_pos c] at h
          exact w_X2_join_129 ih _ _ _ _ _ h
        · rw [if_neg c] at h
          refine r_aload_n 0 dX2_join_109 rfl rfl ?_
          refine gf_32_1 q_466 dX2_join_110 ?_
          refine gfN_2_0 q_186 dX2_join_113 ?_
          refine r_iload 3 dX2_join_116 rfl ?_
          obtain ⟨c1, h⟩ := g_ite h
          refine al_3 (k_b_in c1) dX2_join_118 ?_
          refine r_iload_n 1 dX2_join_119 rfl rfl ?_
          refine r_icmp_ne (t := 129) dX2_join_120 (by decide) (fun c => ?_) (fun c => ?_)
          · rw [if_neg c] at h
            exact w_X2_join_129 ih _ _ _ _ _ h
          · rw [if_pos c] at h
            refine r_aload_n 0 dX2_join_123 rfl rfl ?_
            refine r_iload 3 dX2_join_124 rfl ?_
            obtain ⟨q126, hq126, h⟩ := g_bind h
            refine r_callVv [.int x6] [] q126 (ok_X2_offer hq126) q_1105 q_1107 q_62 q_1108 q_149 hd_X2_offer (ce_32 D dy _) kc2.1 rfl ⟨Nat.le_of_ble_eq_true rfl, Nat.le_of_ble_eq_true rfl⟩ rfl rfl (Nat.le_of_ble_eq_true rfl) dX2_join_126 ?_
            exact w_X2_join_129 ih _ _ _ _ _ h
set_option maxRecDepth 100000 in
set_option maxHeartbeats 4000000 in
theorem w_X2_join_78 {D : k_D} {dy : Nat → Nat} (x1 : Int32) (x3 : Int32) (S : St) (out : St) (h : f_X2_join_78 x1 x3 S = some out) : Rn yX2_join cX2_join 8 none (k_rm 3) 0 0 D dy S (k_Pv dy out) 78 [(0, .ref (D.2.2 32)), (1, .int x1), (3, .int x3)] [] := by
    unfold f_X2_join_78 at h
    refine r_iconst (v := 0) dX2_join_78 rfl ?_
    refine r_istore dX2_join_79 (by decide) rfl ?_
    refine r_sub [1, 2, 3, 0] rfl ?_
    exact w_X2_join_81 _ _ _ _ _ _ h
set_option maxRecDepth 100000 in
set_option maxHeartbeats 4000000 in
theorem w_X2_join_16 {D : k_D} {dy : Nat → Nat} : ∀ (n : Nat) (x1 : Int32) (x2 : Int32) (x3 : Int32) (x4 : Int64) (x6 : Int32) (S : St) (out : St), f_X2_join_16 n x1 x2 x3 x4 x6 S = some out → Rn yX2_join cX2_join 8 none (k_rm 3) 0 0 D dy S (k_Pv dy out) 16 [(0, .ref (D.2.2 32)), (1, .int x1), (2, .int x2), (3, .int x3), (4, .long x4), (6, .int x6)] [] := by
  intro n
  induction n with
  | zero => intro x1 x2 x3 x4 x6 S out h; cases h
  | succ n ih =>
    intro x1 x2 x3 x4 x6 S out h
    rw [f_X2_join_16] at h
    refine r_iload 5 dX2_join_16 rfl ?_
    refine r_aload_n 0 dX2_join_18 rfl rfl ?_
    refine gf_32_10 q_476 dX2_join_19 ?_
    refine r_icmp_gt (t := 78) dX2_join_22 (by decide) (fun c => ?_) (fun c => ?_)
    · rw [if_pos c] at h
      refine r_sub [0, 1, 3] rfl ?_
      exact w_X2_join_78 _ _ _ _ h
    · rw [if_neg c] at h
      refine r_iload 5 dX2_join_25 rfl ?_
      refine r_sipush (v := 241) dX2_join_27 rfl ?_
      refine r_icmp_ge (t := 78) dX2_join_30 (by decide) (fun c => ?_) (fun c => ?_)
      · rw [if_pos c] at h
        refine r_sub [0, 1, 3] rfl ?_
        exact w_X2_join_78 _ _ _ _ h
      · rw [if_neg c] at h
        refine r_iload_n 2 dX2_join_33 rfl rfl ?_
        refine r_iload 5 dX2_join_34 rfl ?_
        obtain ⟨q36, hq36, h⟩ := g_bind h
        refine r_callSi [.int x2, .int x6] [] q36 (ok_X2_placeOf hq36) q_1102 q_1103 q_1104 q_149 hd_X2_placeOf ⟨Nat.le_of_ble_eq_true rfl, Nat.le_of_ble_eq_true rfl⟩ rfl rfl (Nat.le_of_ble_eq_true rfl) dX2_join_36 ?_
        refine r_istore dX2_join_39 (by decide) rfl ?_
        refine r_aload_n 1 dX2_join_41 rfl rfl ?_
        refine gf_32_5 q_470 dX2_join_42 ?_
        refine r_iload 6 dX2_join_45 rfl ?_
        refine r_aload_n 1 dX2_join_47 rfl rfl ?_
        refine gf_32_3 q_468 dX2_join_48 ?_
        refine r_iload 0 dX2_join_51 rfl ?_
        obtain ⟨c1, h⟩ := g_ite h
        refine al_33 (k_b_in c1) dX2_join_53 ?_
        refine r_lload 5 dX2_join_54 rfl ?_
        refine r_lsub dX2_join_56 ?_
        obtain ⟨c2, h⟩ := g_ite h
        refine as_35 (k_b_in c2) dX2_join_57 ?_
        generalize sL q36.2 35 x6.toNatClampNeg ((gL q36.2 33 q36.1.toNatClampNeg) - x4) = S3 at h ⊢
        replace h := g_let h
        refine r_aload_n 1 dX2_join_58 rfl rfl ?_
        refine gf_32_6 q_471 dX2_join_59 ?_
        refine r_iload 6 dX2_join_62 rfl ?_
        refine r_aload_n 1 dX2_join_64 rfl rfl ?_
        refine gf_32_4 q_469 dX2_join_65 ?_
        refine r_iload 0 dX2_join_68 rfl ?_
        obtain ⟨c4, h⟩ := g_ite h
        refine al_34 (k_b_in c4) dX2_join_70 ?_
        obtain ⟨c5, h⟩ := g_ite h
        refine as_36 (k_b_in c5) dX2_join_71 ?_
        generalize sL S3 36 x6.toNatClampNeg (gL S3 34 q36.1.toNatClampNeg) = S6 at h ⊢
        replace h := g_let h
        refine r_iinc (q := 6) (v := x6 + (1 : Int32)) dX2_join_72 rfl rfl (by decide) rfl ?_
        refine r_goto (t := 16) dX2_join_75 (by decide) ?_
        refine r_sub [2, 3, 4, 5, 6, 0] rfl ?_
        exact ih _ _ _ _ _ _ _ h
set_option maxRecDepth 100000 in
set_option maxHeartbeats 4000000 in
theorem w_X2_join_0 {D : k_D} {dy : Nat → Nat} (x1 : Int32) (x2 : Int32) (x3 : Int32) (S : St) (out : St) (h : f_X2_join x1 x2 x3 S = some out) : Rn yX2_join cX2_join 8 none (k_rm 3) 0 0 D dy S (k_Pv dy out) 0 [(0, .ref (D.2.2 32)), (1, .int x1), (2, .int x2), (3, .int x3)] [] := by
    unfold f_X2_join at h
    refine r_ldc2 (v := 65536) q_1100 dX2_join_0 ?_
    refine r_ldc2 (v := 256) q_1101 dX2_join_3 ?_
    refine r_lconst (v := 1) dX2_join_6 rfl ?_
    refine r_iload_n 1 dX2_join_7 rfl rfl ?_
    refine r_lshl dX2_join_8 ?_
    refine r_lmul dX2_join_9 ?_
    refine r_ladd dX2_join_10 ?_
    refine r_lstore dX2_join_11 (by decide) rfl ?_
    refine r_iconst (v := 0) dX2_join_13 rfl ?_
    refine r_istore dX2_join_14 (by decide) rfl ?_
    refine r_sub [2, 3, 4, 5, 1, 0] rfl ?_
    exact w_X2_join_16 _ _ _ _ _ _ _ _ h
theorem ok_X2_join {D : k_D} {dy : Nat → Nat} {x1 : Int32} {x2 : Int32} {x3 : Int32} {S : St} {out : St} (h : f_X2_join x1 x2 x3 S = some out) : Sp yX2_join cX2_join 8 none (k_rm 3) D dy S [.ref (D.2.2 32), .int x1, .int x2, .int x3] (k_Pv dy out) := Sp.of (by decide +kernel) (Nat.le_of_ble_eq_true rfl) (w_X2_join_0 _ _ _ S out h)
