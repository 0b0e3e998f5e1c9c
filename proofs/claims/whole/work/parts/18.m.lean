noncomputable def f_X12_isSign_23 (s0 : Int32) (S : St) : Option (Int32 × St) := if s0 = 0 ∨ s0 = 1 then some (s0, S) else none
noncomputable def f_X12_isSign_22 (S : St) : Option (Int32 × St) := f_X12_isSign_23 (0 : Int32) S
noncomputable def f_X12_isSign (x1 : Int32) (S : St) : Option (Int32 × St) := if (gI S 39) = (3 : Int32) then if (gJ S 0) = x1.toInt64 then f_X12_isSign_23 (1 : Int32) S else f_X12_isSign_22 S else f_X12_isSign_22 S
set_option maxRecDepth 100000 in
set_option maxHeartbeats 4000000 in
theorem w_X12_isSign_23 {D : k_D} {dy : Nat → Nat} (s0 : Int32) (S : St) (out : Int32 × St) (h : f_X12_isSign_23 s0 S = some out) : Rn yX12_isSign cX12_isSign 2 (some .boolean) (k_rm 0) 0 0 D dy S (k_Pi dy out) 23 [] [.int s0] := by
    unfold f_X12_isSign_23 at h
    obtain ⟨c, h⟩ := g_ite h
    cases h
    exact r_zret rfl (k_zn c) dX12_isSign_23 ⟨rfl, rfl, rfl⟩
set_option maxRecDepth 100000 in
set_option maxHeartbeats 4000000 in
theorem w_X12_isSign_22 {D : k_D} {dy : Nat → Nat} (S : St) (out : Int32 × St) (h : f_X12_isSign_22 S = some out) : Rn yX12_isSign cX12_isSign 2 (some .boolean) (k_rm 0) 0 0 D dy S (k_Pi dy out) 22 [] [] := by
    unfold f_X12_isSign_22 at h
    refine r_iconst (v := 0) dX12_isSign_22 rfl ?_
    exact w_X12_isSign_23 _ _ _ h
set_option maxRecDepth 100000 in
set_option maxHeartbeats 4000000 in
theorem w_X12_isSign_0 {D : k_D} {dy : Nat → Nat} (x1 : Int32) (S : St) (out : Int32 × St) (h : f_X12_isSign x1 S = some out) : Rn yX12_isSign cX12_isSign 2 (some .boolean) (k_rm 0) 0 0 D dy S (k_Pi dy out) 0 [(0, .ref (D.2.2 51)), (1, .int x1)] [] := by
    unfold f_X12_isSign at h
    refine r_aload_n 0 dX12_isSign_0 rfl rfl ?_
    refine gf_51_11 q_1322 dX12_isSign_1 ?_
    refine r_iconst (v := 3) dX12_isSign_4 rfl ?_
    refine r_icmp_ne (t := 22) dX12_isSign_5 (by decide) (fun c => ?_) (fun c => ?_)
    · rw [if_neg c] at h
      refine r_sub [] rfl ?_
      exact w_X12_isSign_22 _ _ h
    · rw [if_pos c] at h
      refine r_aload_n 0 dX12_isSign_8 rfl rfl ?_
      refine gf_51_12 q_1323 dX12_isSign_9 ?_
      refine r_iload_n 1 dX12_isSign_12 rfl rfl ?_
      refine r_i2l dX12_isSign_13 ?_
      refine r_lcmp dX12_isSign_14 ?_
      refine r_if_ne (t := 22) dX12_isSign_15 (by decide) (fun c => ?_) (fun c => ?_)
      · rw [if_neg (fun z => c (lc_eq.mpr z))] at h
        refine r_sub [] rfl ?_
        exact w_X12_isSign_22 _ _ h
      · rw [if_pos (lc_eq.mp c)] at h
        refine r_iconst (v := 1) dX12_isSign_18 rfl ?_
        refine r_goto (t := 23) dX12_isSign_19 (by decide) ?_
        refine r_sub [] rfl ?_
        exact w_X12_isSign_23 _ _ _ h
theorem ok_X12_isSign {D : k_D} {dy : Nat → Nat} {x1 : Int32} {S : St} {out : Int32 × St} (h : f_X12_isSign x1 S = some out) : Sp yX12_isSign cX12_isSign 2 (some .boolean) (k_rm 0) D dy S [.ref (D.2.2 51), .int x1] (k_Pi dy out) := Sp.of (by decide +kernel) (Nat.le_of_ble_eq_true rfl) (w_X12_isSign_0 _ S out h)
noncomputable def f_X12_must_35 (S : St) : Option (St) := some S
noncomputable def f_X12_must_24 (S : St) : Option (St) := if (gI S 41) = 0 then (f_X12_next S).bind fun q32 => f_X12_must_35 q32 else f_X12_must_35 S
noncomputable def f_X12_must (x1 : Int32) (S : St) : Option (St) := if (gI S 41) = 0 then if x1 = 0 then k_let (sI S 41 (1 : Int32)) fun S1 => k_let (sI S1 40 (gI S1 37)) fun S2 => f_X12_must_24 S2 else f_X12_must_24 S else f_X12_must_24 S
set_option maxRecDepth 100000 in
set_option maxHeartbeats 4000000 in
theorem w_X12_must_35 {D : k_D} {dy : Nat → Nat} (S : St) (out : St) (h : f_X12_must_35 S = some out) : Rn yX12_must cX12_must 2 none (k_rm 2) 0 0 D dy S (k_Pv dy out) 35 [] [] := by
    unfold f_X12_must_35 at h
    exact r_vret rfl dX12_must_35 ⟨rfl, rfl, Option.some.inj h⟩
set_option maxRecDepth 100000 in
set_option maxHeartbeats 4000000 in
theorem w_X12_must_24 {D : k_D} {dy : Nat → Nat} (S : St) (out : St) (h : f_X12_must_24 S = some out) : Rn yX12_must cX12_must 2 none (k_rm 2) 0 0 D dy S (k_Pv dy out) 24 [(0, .ref (D.2.2 51))] [] := by
    unfold f_X12_must_24 at h
    refine r_aload_n 0 dX12_must_24 rfl rfl ?_
    refine gf_51_14 q_1325 dX12_must_25 ?_
    refine r_if_ne (t := 35) dX12_must_28 (by decide) (fun c => ?_) (fun c => ?_)
    · rw [if_neg c] at h
      refine r_sub [] rfl ?_
      exact w_X12_must_35 _ _ h
    · rw [if_pos c] at h
      refine r_aload_n 0 dX12_must_31 rfl rfl ?_
      obtain ⟨q32, hq32, h⟩ := g_bind h
      refine r_callVv [] [] q32 (ok_X12_next hq32) q_1616 q_1618 q_105 q_1619 q_153 hd_X12_next (ce_51 D dy _) kc12.1 rfl ⟨Nat.le_of_ble_eq_true rfl, Nat.le_of_ble_eq_true rfl⟩ rfl rfl (Nat.le_of_ble_eq_true rfl) dX12_must_32 ?_
      refine r_sub [] rfl ?_
      exact w_X12_must_35 _ _ h
set_option maxRecDepth 100000 in
set_option maxHeartbeats 4000000 in
theorem w_X12_must_0 {D : k_D} {dy : Nat → Nat} (x1 : Int32) (S : St) (out : St) (h : f_X12_must x1 S = some out) : Rn yX12_must cX12_must 2 none (k_rm 2) 0 0 D dy S (k_Pv dy out) 0 [(0, .ref (D.2.2 51)), (1, .int x1)] [] := by
    unfold f_X12_must at h
    refine r_aload_n 0 dX12_must_0 rfl rfl ?_
    refine gf_51_14 q_1325 dX12_must_1 ?_
    refine r_if_ne (t := 24) dX12_must_4 (by decide) (fun c => ?_) (fun c => ?_)
    · rw [if_neg c] at h
      refine r_sub [0] rfl ?_
      exact w_X12_must_24 _ _ h
    · rw [if_pos c] at h
      refine r_iload_n 1 dX12_must_7 rfl rfl ?_
      refine r_if_ne (t := 24) dX12_must_8 (by decide) (fun c => ?_) (fun c => ?_)
      · rw [if_neg c] at h
        refine r_sub [0] rfl ?_
        exact w_X12_must_24 _ _ h
      · rw [if_pos c] at h
        refine r_aload_n 0 dX12_must_11 rfl rfl ?_
        refine r_iconst (v := 1) dX12_must_12 rfl ?_
        refine pf_51_14 (Or.inr rfl) q_1325 dX12_must_13 ?_
        generalize sI S 41 (1 : Int32) = S1 at h ⊢
        replace h := g_let h
        refine r_aload_n 0 dX12_must_16 rfl rfl ?_
        refine r_aload_n 0 dX12_must_17 rfl rfl ?_
        refine gf_51_9 q_1320 dX12_must_18 ?_
        refine pf_51_13 q_1324 dX12_must_21 ?_
        generalize sI S1 40 (gI S1 37) = S2 at h ⊢
        replace h := g_let h
        refine r_sub [0] rfl ?_
        exact w_X12_must_24 _ _ h
theorem ok_X12_must {D : k_D} {dy : Nat → Nat} {x1 : Int32} {S : St} {out : St} (h : f_X12_must x1 S = some out) : Sp yX12_must cX12_must 2 none (k_rm 2) D dy S [.ref (D.2.2 51), .int x1] (k_Pv dy out) := Sp.of (by decide +kernel) (Nat.le_of_ble_eq_true rfl) (w_X12_must_0 _ S out h)
noncomputable def f_X12_fault (S : St) : Option (Int32 × St) := k_let (sI S 33 (0 : Int32)) fun S1 => some (gI S1 40, S1)
set_option maxRecDepth 100000 in
set_option maxHeartbeats 4000000 in
theorem w_X12_fault_0 {D : k_D} {dy : Nat → Nat} (S : St) (out : Int32 × St) (h : f_X12_fault S = some out) : Rn yX12_fault cX12_fault 1 (some .int) (k_rm 0) 0 0 D dy S (k_Pi dy out) 0 [(0, .ref (D.2.2 51))] [] := by
    unfold f_X12_fault at h
    refine r_aload_n 0 dX12_fault_0 rfl rfl ?_
    refine r_iconst (v := 0) dX12_fault_1 rfl ?_
    refine pf_51_0 q_1311 dX12_fault_2 ?_
    generalize sI S 33 (0 : Int32) = S1 at h ⊢
    replace h := g_let h
    refine r_aload_n 0 dX12_fault_5 rfl rfl ?_
    refine gf_51_13 q_1324 dX12_fault_6 ?_
    cases h
    exact r_iret rfl dX12_fault_9 ⟨rfl, rfl, rfl⟩
theorem ok_X12_fault {D : k_D} {dy : Nat → Nat} {S : St} {out : Int32 × St} (h : f_X12_fault S = some out) : Sp yX12_fault cX12_fault 1 (some .int) (k_rm 0) D dy S [.ref (D.2.2 51)] (k_Pi dy out) := Sp.of (by decide +kernel) (Nat.le_of_ble_eq_true rfl) (w_X12_fault_0 S out h)
noncomputable def f_X12_emit (x1 : Int32) (x2 : Int32) (S : St) : Option (St) := if k_b (gI S 43) 400 = true then k_let (sA S 58 (gI S 43).toNatClampNeg x1) fun S2 => if k_b (gI S2 43) 400 = true then k_let (sA S2 59 (gI S2 43).toNatClampNeg x2) fun S4 => k_let (sI S4 43 ((gI S4 43) + (1 : Int32))) fun S5 => some S5 else none else none
set_option maxRecDepth 100000 in
set_option maxHeartbeats 4000000 in
theorem w_X12_emit_0 {D : k_D} {dy : Nat → Nat} (x1 : Int32) (x2 : Int32) (S : St) (out : St) (h : f_X12_emit x1 x2 S = some out) : Rn yX12_emit cX12_emit 3 none (k_rm 0) 0 0 D dy S (k_Pv dy out) 0 [(0, .ref (D.2.2 51)), (1, .int x1), (2, .int x2)] [] := by
    unfold f_X12_emit at h
    refine r_aload_n 0 dX12_emit_0 rfl rfl ?_
    refine gf_51_18 q_1329 dX12_emit_1 ?_
    refine r_aload_n 0 dX12_emit_4 rfl rfl ?_
    refine gf_51_17 q_1328 dX12_emit_5 ?_
    refine r_iload_n 1 dX12_emit_8 rfl rfl ?_
    obtain ⟨c1, h⟩ := g_ite h
    refine as_58 (k_b_in c1) dX12_emit_9 ?_
    generalize sA S 58 (gI S 43).toNatClampNeg x1 = S2 at h ⊢
    replace h := g_let h
    refine r_aload_n 0 dX12_emit_10 rfl rfl ?_
    refine gf_51_19 q_1330 dX12_emit_11 ?_
    refine r_aload_n 0 dX12_emit_14 rfl rfl ?_
    refine gf_51_17 q_1328 dX12_emit_15 ?_
    refine r_iload_n 2 dX12_emit_18 rfl rfl ?_
    obtain ⟨c3, h⟩ := g_ite h
    refine as_59 (k_b_in c3) dX12_emit_19 ?_
    generalize sA S2 59 (gI S2 43).toNatClampNeg x2 = S4 at h ⊢
    replace h := g_let h
    refine r_aload_n 0 dX12_emit_20 rfl rfl ?_
    refine r_dup dX12_emit_21 rfl ?_
    refine gf_51_17 q_1328 dX12_emit_22 ?_
    refine r_iconst (v := 1) dX12_emit_25 rfl ?_
    refine r_iadd dX12_emit_26 ?_
    refine pf_51_17 q_1328 dX12_emit_27 ?_
    generalize sI S4 43 ((gI S4 43) + (1 : Int32)) = S5 at h ⊢
    replace h := g_let h
    exact r_vret rfl dX12_emit_30 ⟨rfl, rfl, Option.some.inj h⟩
theorem ok_X12_emit {D : k_D} {dy : Nat → Nat} {x1 : Int32} {x2 : Int32} {S : St} {out : St} (h : f_X12_emit x1 x2 S = some out) : Sp yX12_emit cX12_emit 3 none (k_rm 0) D dy S [.ref (D.2.2 51), .int x1, .int x2] (k_Pv dy out) := Sp.of (by decide +kernel) (Nat.le_of_ble_eq_true rfl) (w_X12_emit_0 _ _ S out h)
noncomputable def f_X12_push (x1 : Int32) (x2 : Int32) (S : St) : Option (St) := if k_b (gI S 45) 400 = true then k_let (sA S 60 (gI S 45).toNatClampNeg x1) fun S2 => if k_b (gI S2 45) 400 = true then k_let (sA S2 61 (gI S2 45).toNatClampNeg x2) fun S4 => k_let (sI S4 45 ((gI S4 45) + (1 : Int32))) fun S5 => some S5 else none else none
set_option maxRecDepth 100000 in
set_option maxHeartbeats 4000000 in
theorem w_X12_push_0 {D : k_D} {dy : Nat → Nat} (x1 : Int32) (x2 : Int32) (S : St) (out : St) (h : f_X12_push x1 x2 S = some out) : Rn yX12_push cX12_push 3 none (k_rm 0) 0 0 D dy S (k_Pv dy out) 0 [(0, .ref (D.2.2 51)), (1, .int x1), (2, .int x2)] [] := by
    unfold f_X12_push at h
    refine r_aload_n 0 dX12_push_0 rfl rfl ?_
    refine gf_51_21 q_1332 dX12_push_1 ?_
    refine r_aload_n 0 dX12_push_4 rfl rfl ?_
    refine gf_51_23 q_1334 dX12_push_5 ?_
    refine r_iload_n 1 dX12_push_8 rfl rfl ?_
    obtain ⟨c1, h⟩ := g_ite h
    refine as_60 (k_b_in c1) dX12_push_9 ?_
    generalize sA S 60 (gI S 45).toNatClampNeg x1 = S2 at h ⊢
    replace h := g_let h
    refine r_aload_n 0 dX12_push_10 rfl rfl ?_
    refine gf_51_22 q_1333 dX12_push_11 ?_
    refine r_aload_n 0 dX12_push_14 rfl rfl ?_
    refine gf_51_23 q_1334 dX12_push_15 ?_
    refine r_iload_n 2 dX12_push_18 rfl rfl ?_
    obtain ⟨c3, h⟩ := g_ite h
    refine as_61 (k_b_in c3) dX12_push_19 ?_
    generalize sA S2 61 (gI S2 45).toNatClampNeg x2 = S4 at h ⊢
    replace h := g_let h
    refine r_aload_n 0 dX12_push_20 rfl rfl ?_
    refine r_dup dX12_push_21 rfl ?_
    refine gf_51_23 q_1334 dX12_push_22 ?_
    refine r_iconst (v := 1) dX12_push_25 rfl ?_
    refine r_iadd dX12_push_26 ?_
    refine pf_51_23 q_1334 dX12_push_27 ?_
    generalize sI S4 45 ((gI S4 45) + (1 : Int32)) = S5 at h ⊢
    replace h := g_let h
    exact r_vret rfl dX12_push_30 ⟨rfl, rfl, Option.some.inj h⟩
theorem ok_X12_push {D : k_D} {dy : Nat → Nat} {x1 : Int32} {x2 : Int32} {S : St} {out : St} (h : f_X12_push x1 x2 S = some out) : Sp yX12_push cX12_push 3 none (k_rm 0) D dy S [.ref (D.2.2 51), .int x1, .int x2] (k_Pv dy out) := Sp.of (by decide +kernel) (Nat.le_of_ble_eq_true rfl) (w_X12_push_0 _ _ S out h)
noncomputable def f_X12_binds_62 (s0 : Int32) (S : St) : Option (Int32 × St) := some (s0, S)
noncomputable def f_X12_binds (x0 : Int32) (S : St) : Option (Int32 × St) := if x0 < (30 : Int32) then if x0 = (29 : Int32) then f_X12_binds_62 (1 : Int32) S else if x0 = (28 : Int32) then f_X12_binds_62 (2 : Int32) S else if x0 = (27 : Int32) then f_X12_binds_62 (3 : Int32) S else if x0 < (24 : Int32) then if x0 < (22 : Int32) then f_X12_binds_62 (5 : Int32) S else f_X12_binds_62 (6 : Int32) S else f_X12_binds_62 (4 : Int32) S else f_X12_binds_62 (0 : Int32) S
set_option maxRecDepth 100000 in
set_option maxHeartbeats 4000000 in
theorem w_X12_binds_62 {D : k_D} {dy : Nat → Nat} (s0 : Int32) (S : St) (out : Int32 × St) (h : f_X12_binds_62 s0 S = some out) : Rn yX12_binds cX12_binds 1 (some .int) (k_rm 0) 0 0 D dy S (k_Pi dy out) 62 [] [.int s0] := by
    unfold f_X12_binds_62 at h
    cases h
    exact r_iret rfl dX12_binds_62 ⟨rfl, rfl, rfl⟩
set_option maxRecDepth 100000 in
set_option maxHeartbeats 4000000 in
theorem w_X12_binds_0 {D : k_D} {dy : Nat → Nat} (x0 : Int32) (S : St) (out : Int32 × St) (h : f_X12_binds x0 S = some out) : Rn yX12_binds cX12_binds 1 (some .int) (k_rm 0) 0 0 D dy S (k_Pi dy out) 0 [(0, .int x0)] [] := by
    unfold f_X12_binds at h
    refine r_iload_n 0 dX12_binds_0 rfl rfl ?_
    refine r_bipush (v := 30) dX12_binds_1 rfl ?_
    refine r_icmp_lt (t := 10) dX12_binds_3 (by decide) (fun c => ?_) (fun c => ?_)
    · rw [if_pos c] at h
      refine r_iload_n 0 dX12_binds_10 rfl rfl ?_
      refine r_bipush (v := 29) dX12_binds_11 rfl ?_
      refine r_icmp_ne (t := 20) dX12_binds_13 (by decide) (fun c => ?_) (fun c => ?_)
      · rw [if_neg c] at h
        refine r_iload_n 0 dX12_binds_20 rfl rfl ?_
        refine r_bipush (v := 28) dX12_binds_21 rfl ?_
        refine r_icmp_ne (t := 30) dX12_binds_23 (by decide) (fun c => ?_) (fun c => ?_)
        · rw [if_neg c] at h
          refine r_iload_n 0 dX12_binds_30 rfl rfl ?_
          refine r_bipush (v := 27) dX12_binds_31 rfl ?_
          refine r_icmp_ne (t := 40) dX12_binds_33 (by decide) (fun c => ?_) (fun c => ?_)
          · rw [if_neg c] at h
            refine r_iload_n 0 dX12_binds_40 rfl rfl ?_
            refine r_bipush (v := 24) dX12_binds_41 rfl ?_
            refine r_icmp_lt (t := 50) dX12_binds_43 (by decide) (fun c => ?_) (fun c => ?_)
            · rw [if_pos c] at h
              refine r_iload_n 0 dX12_binds_50 rfl rfl ?_
              refine r_bipush (v := 22) dX12_binds_51 rfl ?_
              refine r_icmp_lt (t := 61) dX12_binds_53 (by decide) (fun c => ?_) (fun c => ?_)
              · rw [if_pos c] at h
                refine r_iconst (v := 5) dX12_binds_61 rfl ?_
                refine r_sub [] rfl ?_
                exact w_X12_binds_62 _ _ _ h
              · rw [if_neg c] at h
                refine r_bipush (v := 6) dX12_binds_56 rfl ?_
                refine r_goto (t := 62) dX12_binds_58 (by decide) ?_
                refine r_sub [] rfl ?_
                exact w_X12_binds_62 _ _ _ h
            · rw [if_neg c] at h
              refine r_iconst (v := 4) dX12_binds_46 rfl ?_
              refine r_goto (t := 62) dX12_binds_47 (by decide) ?_
              refine r_sub [] rfl ?_
              exact w_X12_binds_62 _ _ _ h
          · rw [if_pos c] at h
            refine r_iconst (v := 3) dX12_binds_36 rfl ?_
            refine r_goto (t := 62) dX12_binds_37 (by decide) ?_
            refine r_sub [] rfl ?_
            exact w_X12_binds_62 _ _ _ h
        · rw [if_pos c] at h
          refine r_iconst (v := 2) dX12_binds_26 rfl ?_
          refine r_goto (t := 62) dX12_binds_27 (by decide) ?_
          refine r_sub [] rfl ?_
          exact w_X12_binds_62 _ _ _ h
      · rw [if_pos c] at h
        refine r_iconst (v := 1) dX12_binds_16 rfl ?_
        refine r_goto (t := 62) dX12_binds_17 (by decide) ?_
        refine r_sub [] rfl ?_
        exact w_X12_binds_62 _ _ _ h
    · rw [if_neg c] at h
      refine r_iconst (v := 0) dX12_binds_6 rfl ?_
      refine r_goto (t := 62) dX12_binds_7 (by decide) ?_
      refine r_sub [] rfl ?_
      exact w_X12_binds_62 _ _ _ h
theorem ok_X12_binds {D : k_D} {dy : Nat → Nat} {x0 : Int32} {S : St} {out : Int32 × St} (h : f_X12_binds x0 S = some out) : Sp yX12_binds cX12_binds 1 (some .int) (k_rm 0) D dy S [.int x0] (k_Pi dy out) := Sp.of (by decide +kernel) (Nat.le_of_ble_eq_true rfl) (w_X12_binds_0 _ S out h)
noncomputable def f_X12_settle_101 (S : St) : Option (St) := some S
noncomputable def f_X12_settle_63 (k0 : Int32 → St → Option (St)) (x1 : Int32) (S : St) : Option (St) := if k_b (gI S 45) 400 = true then if k_b (gA S 61 (gI S 45).toNatClampNeg) 400 = true then k_let (sA S 59 (gA S 61 (gI S 45).toNatClampNeg).toNatClampNeg (gI S 43)) fun S3 => k0 x1 S3 else none else none
noncomputable def f_X12_settle_0 : Nat → Int32 → St → Option (St)
  | 0, _, _ => none
  | n + 1, x1, S => if (gI S 45) ≤ 0 then f_X12_settle_101 S else if k_b ((gI S 45) - (1 : Int32)) 400 = true then (f_X12_binds (gA S 60 ((gI S 45) - (1 : Int32)).toNatClampNeg) S).bind fun q18 => if q18.1 < x1 then f_X12_settle_101 q18.2 else k_let (sI q18.2 45 ((gI q18.2 45) - (1 : Int32))) fun S2 => if k_b (gI S2 45) 400 = true then if (gA S2 60 (gI S2 45).toNatClampNeg) = (28 : Int32) then f_X12_settle_63 (f_X12_settle_0 n) x1 S2 else if k_b (gI S2 45) 400 = true then if (gA S2 60 (gI S2 45).toNatClampNeg) = (29 : Int32) then f_X12_settle_63 (f_X12_settle_0 n) x1 S2 else if k_b (gI S2 45) 400 = true then (f_X12_emit (gA S2 60 (gI S2 45).toNatClampNeg) (0 : Int32) S2).bind fun q95 => f_X12_settle_0 n x1 q95 else none else none else none else none
noncomputable def f_X12_settle (x1 : Int32) (S : St) : Option (St) := f_X12_settle_0 FU x1 S
set_option maxRecDepth 100000 in
set_option maxHeartbeats 4000000 in
theorem w_X12_settle_101 {D : k_D} {dy : Nat → Nat} (S : St) (out : St) (h : f_X12_settle_101 S = some out) : Rn yX12_settle cX12_settle 2 none (k_rm 1) 0 0 D dy S (k_Pv dy out) 101 [] [] := by
    unfold f_X12_settle_101 at h
    exact r_vret rfl dX12_settle_101 ⟨rfl, rfl, Option.some.inj h⟩
set_option maxRecDepth 100000 in
set_option maxHeartbeats 4000000 in
theorem w_X12_settle_63 {D : k_D} {dy : Nat → Nat} {k0 : Int32 → St → Option (St)} (hk0 : ∀ (x1 : Int32) (S : St) (out : St), k0 x1 S = some out → Rn yX12_settle cX12_settle 2 none (k_rm 1) 0 0 D dy S (k_Pv dy out) 0 [(0, .ref (D.2.2 51)), (1, .int x1)] []) (x1 : Int32) (S : St) (out : St) (h : f_X12_settle_63 k0 x1 S = some out) : Rn yX12_settle cX12_settle 2 none (k_rm 1) 0 0 D dy S (k_Pv dy out) 63 [(0, .ref (D.2.2 51)), (1, .int x1)] [] := by
    unfold f_X12_settle_63 at h
    refine r_aload_n 0 dX12_settle_63 rfl rfl ?_
    refine gf_51_19 q_1330 dX12_settle_64 ?_
    refine r_aload_n 0 dX12_settle_67 rfl rfl ?_
    refine gf_51_22 q_1333 dX12_settle_68 ?_
    refine r_aload_n 0 dX12_settle_71 rfl rfl ?_
    refine gf_51_23 q_1334 dX12_settle_72 ?_
    obtain ⟨c1, h⟩ := g_ite h
    refine al_61 (k_b_in c1) dX12_settle_75 ?_
    refine r_aload_n 0 dX12_settle_76 rfl rfl ?_
    refine gf_51_17 q_1328 dX12_settle_77 ?_
    obtain ⟨c2, h⟩ := g_ite h
    refine as_59 (k_b_in c2) dX12_settle_80 ?_
    generalize sA S 59 (gA S 61 (gI S 45).toNatClampNeg).toNatClampNeg (gI S 43) = S3 at h ⊢
    replace h := g_let h
    refine r_goto (t := 0) dX12_settle_81 (by decide) ?_
    exact hk0 _ _ _ h
set_option maxRecDepth 100000 in
set_option maxHeartbeats 4000000 in
theorem w_X12_settle_0 {D : k_D} {dy : Nat → Nat} : ∀ (n : Nat) (x1 : Int32) (S : St) (out : St), f_X12_settle_0 n x1 S = some out → Rn yX12_settle cX12_settle 2 none (k_rm 1) 0 0 D dy S (k_Pv dy out) 0 [(0, .ref (D.2.2 51)), (1, .int x1)] [] := by
  intro n
  induction n with
  | zero => intro x1 S out h; cases h
  | succ n ih =>
    intro x1 S out h
    rw [f_X12_settle_0] at h
    refine r_aload_n 0 dX12_settle_0 rfl rfl ?_
    refine gf_51_23 q_1334 dX12_settle_1 ?_
    refine r_if_le (t := 101) dX12_settle_4 (by decide) (fun c => ?_) (fun c => ?_)
    · rw [if_pos c] at h
      refine r_sub [] rfl ?_
      exact w_X12_settle_101 _ _ h
    · rw [if_neg c] at h
      refine r_aload_n 0 dX12_settle_7 rfl rfl ?_
      refine gf_51_21 q_1332 dX12_settle_8 ?_
      refine r_aload_n 0 dX12_settle_11 rfl rfl ?_
      refine gf_51_23 q_1334 dX12_settle_12 ?_
      refine r_iconst (v := 1) dX12_settle_15 rfl ?_
      refine r_isub dX12_settle_16 ?_
      obtain ⟨c1, h⟩ := g_ite h
      refine al_60 (k_b_in c1) dX12_settle_17 ?_
      obtain ⟨q18, hq18, h⟩ := g_bind h
      refine r_callSi [.int (gA S 60 ((gI S 45) - (1 : Int32)).toNatClampNeg)] [] q18 (ok_X12_binds hq18) q_1686 q_1687 q_1688 q_153 hd_X12_binds ⟨Nat.le_of_ble_eq_true rfl, Nat.le_of_ble_eq_true rfl⟩ rfl rfl (Nat.le_of_ble_eq_true rfl) dX12_settle_18 ?_
      refine r_iload_n 1 dX12_settle_21 rfl rfl ?_
      refine r_icmp_lt (t := 101) dX12_settle_22 (by decide) (fun c => ?_) (fun c => ?_)
      · rw [if_pos c] at h
        refine r_sub [] rfl ?_
        exact w_X12_settle_101 _ _ h
      · rw [if_neg c] at h
        refine r_aload_n 0 dX12_settle_25 rfl rfl ?_
        refine r_dup dX12_settle_26 rfl ?_
        refine gf_51_23 q_1334 dX12_settle_27 ?_
        refine r_iconst (v := 1) dX12_settle_30 rfl ?_
        refine r_isub dX12_settle_31 ?_
        refine pf_51_23 q_1334 dX12_settle_32 ?_
        generalize sI q18.2 45 ((gI q18.2 45) - (1 : Int32)) = S2 at h ⊢
        replace h := g_let h
        refine r_aload_n 0 dX12_settle_35 rfl rfl ?_
        refine gf_51_21 q_1332 dX12_settle_36 ?_
        refine r_aload_n 0 dX12_settle_39 rfl rfl ?_
        refine gf_51_23 q_1334 dX12_settle_40 ?_
        obtain ⟨c3, h⟩ := g_ite h
        refine al_60 (k_b_in c3) dX12_settle_43 ?_
        refine r_bipush (v := 28) dX12_settle_44 rfl ?_
        refine r_icmp_eq (t := 63) dX12_settle_46 (by decide) (fun c => ?_) (fun c => ?_)
        · rw [if_pos c] at h
          exact w_X12_settle_63 ih _ _ _ h
        · rw [if_neg c] at h
          refine r_aload_n 0 dX12_settle_49 rfl rfl ?_
          refine gf_51_21 q_1332 dX12_settle_50 ?_
          refine r_aload_n 0 dX12_settle_53 rfl rfl ?_
          refine gf_51_23 q_1334 dX12_settle_54 ?_
          obtain ⟨c4, h⟩ := g_ite h
          refine al_60 (k_b_in c4) dX12_settle_57 ?_
          refine r_bipush (v := 29) dX12_settle_58 rfl ?_
          refine r_icmp_ne (t := 84) dX12_settle_60 (by decide) (fun c => ?_) (fun c => ?_)
          · rw [if_neg c] at h
            refine r_aload_n 0 dX12_settle_84 rfl rfl ?_
            refine r_aload_n 0 dX12_settle_85 rfl rfl ?_
            refine gf_51_21 q_1332 dX12_settle_86 ?_
            refine r_aload_n 0 dX12_settle_89 rfl rfl ?_
            refine gf_51_23 q_1334 dX12_settle_90 ?_
            obtain ⟨c5, h⟩ := g_ite h
            refine al_60 (k_b_in c5) dX12_settle_93 ?_
            refine r_iconst (v := 0) dX12_settle_94 rfl ?_
            obtain ⟨q95, hq95, h⟩ := g_bind h
            refine r_callVv [.int (gA S2 60 (gI S2 45).toNatClampNeg), .int (0 : Int32)] [] q95 (ok_X12_emit hq95) q_1678 q_1680 q_117 q_1681 q_153 hd_X12_emit (ce_51 D dy _) kc12.1 rfl ⟨Nat.le_of_ble_eq_true rfl, Nat.le_of_ble_eq_true rfl⟩ rfl rfl (Nat.le_of_ble_eq_true rfl) dX12_settle_95 ?_
            refine r_goto (t := 0) dX12_settle_98 (by decide) ?_
            exact ih _ _ _ h
          · rw [if_pos c] at h
            exact w_X12_settle_63 ih _ _ _ h
theorem ok_X12_settle {D : k_D} {dy : Nat → Nat} {x1 : Int32} {S : St} {out : St} (h : f_X12_settle x1 S = some out) : Sp yX12_settle cX12_settle 2 none (k_rm 1) D dy S [.ref (D.2.2 51), .int x1] (k_Pv dy out) := Sp.of (by decide +kernel) (Nat.le_of_ble_eq_true rfl) (w_X12_settle_0 FU _ S out h)
noncomputable def f_X12_inner_33 (k4 : Int32 → Int32 → St → Option (Int32 × St)) (x2 : Int32) (s0 : Int32) (S : St) : Option (Int32 × St) := k4 s0 (x2 + (1 : Int32)) S
noncomputable def f_X12_inner_4 : Nat → Int32 → Int32 → St → Option (Int32 × St)
  | 0, _, _, _ => none
  | n + 1, x1, x2, S => if (gI S 45) ≤ x2 then some (x1, S) else if k_b x2 400 = true then if (gA S 60 x2.toNatClampNeg) < (30 : Int32) then f_X12_inner_33 (f_X12_inner_4 n) x2 x1 S else if k_b x2 400 = true then f_X12_inner_33 (f_X12_inner_4 n) x2 (gA S 60 x2.toNatClampNeg) S else none else none
noncomputable def f_X12_inner (S : St) : Option (Int32 × St) := f_X12_inner_4 FU (-1 : Int32) (0 : Int32) S
set_option maxRecDepth 100000 in
set_option maxHeartbeats 4000000 in
theorem w_X12_inner_33 {D : k_D} {dy : Nat → Nat} {k4 : Int32 → Int32 → St → Option (Int32 × St)} (hk4 : ∀ (x1 : Int32) (x2 : Int32) (S : St) (out : Int32 × St), k4 x1 x2 S = some out → Rn yX12_inner cX12_inner 3 (some .int) (k_rm 0) 0 0 D dy S (k_Pi dy out) 4 [(0, .ref (D.2.2 51)), (1, .int x1), (2, .int x2)] []) (x2 : Int32) (s0 : Int32) (S : St) (out : Int32 × St) (h : f_X12_inner_33 k4 x2 s0 S = some out) : Rn yX12_inner cX12_inner 3 (some .int) (k_rm 0) 0 0 D dy S (k_Pi dy out) 33 [(0, .ref (D.2.2 51)), (2, .int x2)] [.int s0] := by
    unfold f_X12_inner_33 at h
    refine r_istore_n dX12_inner_33 rfl (by decide) rfl ?_
    refine r_iinc (q := 2) (v := x2 + (1 : Int32)) dX12_inner_34 rfl rfl (by decide) rfl ?_
    refine r_goto (t := 4) dX12_inner_37 (by decide) ?_
    refine r_sub [2, 1, 0] rfl ?_
    exact hk4 _ _ _ _ h
set_option maxRecDepth 100000 in
set_option maxHeartbeats 4000000 in
theorem w_X12_inner_4 {D : k_D} {dy : Nat → Nat} : ∀ (n : Nat) (x1 : Int32) (x2 : Int32) (S : St) (out : Int32 × St), f_X12_inner_4 n x1 x2 S = some out → Rn yX12_inner cX12_inner 3 (some .int) (k_rm 0) 0 0 D dy S (k_Pi dy out) 4 [(0, .ref (D.2.2 51)), (1, .int x1), (2, .int x2)] [] := by
  intro n
  induction n with
  | zero => intro x1 x2 S out h; cases h
  | succ n ih =>
    intro x1 x2 S out h
    rw [f_X12_inner_4] at h
    refine r_iload_n 2 dX12_inner_4 rfl rfl ?_
    refine r_aload_n 0 dX12_inner_5 rfl rfl ?_
    refine gf_51_23 q_1334 dX12_inner_6 ?_
    refine r_icmp_ge (t := 40) dX12_inner_9 (by decide) (fun c => ?_) (fun c => ?_)
    · rw [if_pos c] at h
      refine r_iload_n 1 dX12_inner_40 rfl rfl ?_
      cases h
      exact r_iret rfl dX12_inner_41 ⟨rfl, rfl, rfl⟩
    · rw [if_neg c] at h
      refine r_aload_n 0 dX12_inner_12 rfl rfl ?_
      refine gf_51_21 q_1332 dX12_inner_13 ?_
      refine r_iload_n 2 dX12_inner_16 rfl rfl ?_
      obtain ⟨c1, h⟩ := g_ite h
      refine al_60 (k_b_in c1) dX12_inner_17 ?_
      refine r_bipush (v := 30) dX12_inner_18 rfl ?_
      refine r_icmp_lt (t := 32) dX12_inner_20 (by decide) (fun c => ?_) (fun c => ?_)
      · rw [if_pos c] at h
        refine r_iload_n 1 dX12_inner_32 rfl rfl ?_
        refine r_sub [0, 2] rfl ?_
        exact w_X12_inner_33 ih _ _ _ _ h
      · rw [if_neg c] at h
        refine r_aload_n 0 dX12_inner_23 rfl rfl ?_
        refine gf_51_21 q_1332 dX12_inner_24 ?_
        refine r_iload_n 2 dX12_inner_27 rfl rfl ?_
        obtain ⟨c2, h⟩ := g_ite h
        refine al_60 (k_b_in c2) dX12_inner_28 ?_
        refine r_goto (t := 33) dX12_inner_29 (by decide) ?_
        refine r_sub [0, 2] rfl ?_
        exact w_X12_inner_33 ih _ _ _ _ h
set_option maxRecDepth 100000 in
set_option maxHeartbeats 4000000 in
theorem w_X12_inner_0 {D : k_D} {dy : Nat → Nat} (S : St) (out : Int32 × St) (h : f_X12_inner S = some out) : Rn yX12_inner cX12_inner 3 (some .int) (k_rm 0) 0 0 D dy S (k_Pi dy out) 0 [(0, .ref (D.2.2 51))] [] := by
    unfold f_X12_inner at h
    refine r_iconst (v := -1) dX12_inner_0 rfl ?_
    refine r_istore_n dX12_inner_1 rfl (by decide) rfl ?_
    refine r_iconst (v := 0) dX12_inner_2 rfl ?_
    refine r_istore_n dX12_inner_3 rfl (by decide) rfl ?_
    refine r_sub [2, 1, 0] rfl ?_
    exact w_X12_inner_4 _ _ _ _ _ h
theorem ok_X12_inner {D : k_D} {dy : Nat → Nat} {S : St} {out : Int32 × St} (h : f_X12_inner S = some out) : Sp yX12_inner cX12_inner 3 (some .int) (k_rm 0) D dy S [.ref (D.2.2 51)] (k_Pi dy out) := Sp.of (by decide +kernel) (Nat.le_of_ble_eq_true rfl) (w_X12_inner_0 S out h)
noncomputable def f_X12_isCompared_64 (s0 : Int32) (S : St) : Option (Int32 × St) := if s0 = 0 ∨ s0 = 1 then some (s0, S) else none
noncomputable def f_X12_isCompared_63 (S : St) : Option (Int32 × St) := f_X12_isCompared_64 (0 : Int32) S
noncomputable def f_X12_isCompared_36 (x1 : Int32) (S : St) : Option (Int32 × St) := if x1 < 0 then f_X12_isCompared_63 S else if k_b x1 400 = true then (f_X12_in ((gA S 60 x1.toNatClampNeg).toInt64) (24 : Int64) (26 : Int64) S).bind fun q53 => if q53.1 = 0 then f_X12_isCompared_63 q53.2 else f_X12_isCompared_64 (1 : Int32) q53.2 else none
noncomputable def f_X12_isCompared_7 : Nat → Int32 → St → Option (Int32 × St)
  | 0, _, _ => none
  | n + 1, x1, S => if x1 < 0 then f_X12_isCompared_36 x1 S else if k_b x1 400 = true then (f_X12_in ((gA S 60 x1.toNatClampNeg).toInt64) (20 : Int64) (23 : Int64) S).bind fun q24 => if q24.1 = 0 then f_X12_isCompared_36 x1 q24.2 else f_X12_isCompared_7 n (x1 + (-1 : Int32)) q24.2 else none
noncomputable def f_X12_isCompared (S : St) : Option (Int32 × St) := f_X12_isCompared_7 FU ((gI S 45) - (1 : Int32)) S
set_option maxRecDepth 100000 in
set_option maxHeartbeats 4000000 in
theorem w_X12_isCompared_64 {D : k_D} {dy : Nat → Nat} (s0 : Int32) (S : St) (out : Int32 × St) (h : f_X12_isCompared_64 s0 S = some out) : Rn yX12_isCompared cX12_isCompared 2 (some .boolean) (k_rm 1) 0 0 D dy S (k_Pi dy out) 64 [] [.int s0] := by
    unfold f_X12_isCompared_64 at h
    obtain ⟨c, h⟩ := g_ite h
    cases h
    exact r_zret rfl (k_zn c) dX12_isCompared_64 ⟨rfl, rfl, rfl⟩
set_option maxRecDepth 100000 in
set_option maxHeartbeats 4000000 in
theorem w_X12_isCompared_63 {D : k_D} {dy : Nat → Nat} (S : St) (out : Int32 × St) (h : f_X12_isCompared_63 S = some out) : Rn yX12_isCompared cX12_isCompared 2 (some .boolean) (k_rm 1) 0 0 D dy S (k_Pi dy out) 63 [] [] := by
    unfold f_X12_isCompared_63 at h
    refine r_iconst (v := 0) dX12_isCompared_63 rfl ?_
    exact w_X12_isCompared_64 _ _ _ h
set_option maxRecDepth 100000 in
set_option maxHeartbeats 4000000 in
theorem w_X12_isCompared_36 {D : k_D} {dy : Nat → Nat} (x1 : Int32) (S : St) (out : Int32 × St) (h : f_X12_isCompared_36 x1 S = some out) : Rn yX12_isCompared cX12_isCompared 2 (some .boolean) (k_rm 1) 0 0 D dy S (k_Pi dy out) 36 [(0, .ref (D.2.2 51)), (1, .int x1)] [] := by
    unfold f_X12_isCompared_36 at h
    refine r_iload_n 1 dX12_isCompared_36 rfl rfl ?_
    refine r_if_lt (t := 63) dX12_isCompared_37 (by decide) (fun c => ?_) (fun c => ?_)
    · rw [if_pos c] at h
      refine r_sub [] rfl ?_
      exact w_X12_isCompared_63 _ _ h
    · rw [if_neg c] at h
      refine r_aload_n 0 dX12_isCompared_40 rfl rfl ?_
      refine gf_51_21 q_1332 dX12_isCompared_41 ?_
      refine r_iload_n 1 dX12_isCompared_44 rfl rfl ?_
      obtain ⟨c1, h⟩ := g_ite h
      refine al_60 (k_b_in c1) dX12_isCompared_45 ?_
      refine r_i2l dX12_isCompared_46 ?_
      refine r_ldc2 (v := 24) q_1703 dX12_isCompared_47 ?_
      refine r_ldc2 (v := 26) q_1704 dX12_isCompared_50 ?_
      obtain ⟨q53, hq53, h⟩ := g_bind h
      refine r_callSi [.long ((gA S 60 x1.toNatClampNeg).toInt64), .long (24 : Int64), .long (26 : Int64)] [] q53 (ok_X12_in hq53) q_1481 q_1482 q_1483 q_153 hd_X12_in ⟨Nat.le_of_ble_eq_true rfl, Nat.le_of_ble_eq_true rfl⟩ rfl rfl (Nat.le_of_ble_eq_true rfl) dX12_isCompared_53 ?_
      refine r_if_eq (t := 63) dX12_isCompared_56 (by decide) (fun c => ?_) (fun c => ?_)
      · rw [if_pos c] at h
        refine r_sub [] rfl ?_
        exact w_X12_isCompared_63 _ _ h
      · rw [if_neg c] at h
        refine r_iconst (v := 1) dX12_isCompared_59 rfl ?_
        refine r_goto (t := 64) dX12_isCompared_60 (by decide) ?_
        refine r_sub [] rfl ?_
        exact w_X12_isCompared_64 _ _ _ h
set_option maxRecDepth 100000 in
set_option maxHeartbeats 4000000 in
theorem w_X12_isCompared_7 {D : k_D} {dy : Nat → Nat} : ∀ (n : Nat) (x1 : Int32) (S : St) (out : Int32 × St), f_X12_isCompared_7 n x1 S = some out → Rn yX12_isCompared cX12_isCompared 2 (some .boolean) (k_rm 1) 0 0 D dy S (k_Pi dy out) 7 [(0, .ref (D.2.2 51)), (1, .int x1)] [] := by
  intro n
  induction n with
  | zero => intro x1 S out h; cases h
  | succ n ih =>
    intro x1 S out h
    rw [f_X12_isCompared_7] at h
    refine r_iload_n 1 dX12_isCompared_7 rfl rfl ?_
    refine r_if_lt (t := 36) dX12_isCompared_8 (by decide) (fun c => ?_) (fun c => ?_)
    · rw [if_pos c] at h
      exact w_X12_isCompared_36 _ _ _ h
    · rw [if_neg c] at h
      refine r_aload_n 0 dX12_isCompared_11 rfl rfl ?_
      refine gf_51_21 q_1332 dX12_isCompared_12 ?_
      refine r_iload_n 1 dX12_isCompared_15 rfl rfl ?_
      obtain ⟨c1, h⟩ := g_ite h
      refine al_60 (k_b_in c1) dX12_isCompared_16 ?_
      refine r_i2l dX12_isCompared_17 ?_
      refine r_ldc2 (v := 20) q_1701 dX12_isCompared_18 ?_
      refine r_ldc2 (v := 23) q_1702 dX12_isCompared_21 ?_
      obtain ⟨q24, hq24, h⟩ := g_bind h
      refine r_callSi [.long ((gA S 60 x1.toNatClampNeg).toInt64), .long (20 : Int64), .long (23 : Int64)] [] q24 (ok_X12_in hq24) q_1481 q_1482 q_1483 q_153 hd_X12_in ⟨Nat.le_of_ble_eq_true rfl, Nat.le_of_ble_eq_true rfl⟩ rfl rfl (Nat.le_of_ble_eq_true rfl) dX12_isCompared_24 ?_
      refine r_if_eq (t := 36) dX12_isCompared_27 (by decide) (fun c => ?_) (fun c => ?_)
      · rw [if_pos c] at h
        exact w_X12_isCompared_36 _ _ _ h
      · rw [if_neg c] at h
        refine r_iinc (q := 1) (v := x1 + (-1 : Int32)) dX12_isCompared_30 rfl rfl (by decide) rfl ?_
        refine r_goto (t := 7) dX12_isCompared_33 (by decide) ?_
        refine r_sub [1, 0] rfl ?_
        exact ih _ _ _ h
set_option maxRecDepth 100000 in
set_option maxHeartbeats 4000000 in
theorem w_X12_isCompared_0 {D : k_D} {dy : Nat → Nat} (S : St) (out : Int32 × St) (h : f_X12_isCompared S = some out) : Rn yX12_isCompared cX12_isCompared 2 (some .boolean) (k_rm 1) 0 0 D dy S (k_Pi dy out) 0 [(0, .ref (D.2.2 51))] [] := by
    unfold f_X12_isCompared at h
    refine r_aload_n 0 dX12_isCompared_0 rfl rfl ?_
    refine gf_51_23 q_1334 dX12_isCompared_1 ?_
    refine r_iconst (v := 1) dX12_isCompared_4 rfl ?_
    refine r_isub dX12_isCompared_5 ?_
    refine r_istore_n dX12_isCompared_6 rfl (by decide) rfl ?_
    refine r_sub [1, 0] rfl ?_
    exact w_X12_isCompared_7 _ _ _ _ h
theorem ok_X12_isCompared {D : k_D} {dy : Nat → Nat} {S : St} {out : Int32 × St} (h : f_X12_isCompared S = some out) : Sp yX12_isCompared cX12_isCompared 2 (some .boolean) (k_rm 1) D dy S [.ref (D.2.2 51)] (k_Pi dy out) := Sp.of (by decide +kernel) (Nat.le_of_ble_eq_true rfl) (w_X12_isCompared_0 S out h)
noncomputable def f_X12_partAt_30 (k4 : Int32 → Int32 → St → Option (Int32 × St)) (x2 : Int32) (s0 : Int32) (S : St) : Option (Int32 × St) := k4 s0 (x2 + (1 : Int32)) S
noncomputable def f_X12_partAt_4 : Nat → Int32 → Int32 → St → Option (Int32 × St)
  | 0, _, _, _ => none
  | n + 1, x1, x2, S => if (7 : Int32) ≤ x2 then some (x1, S) else if k_b x2 7 = true then (f_X12_isWord (gL S 62 x2.toNatClampNeg) S).bind fun q17 => if q17.1 = 0 then f_X12_partAt_30 (f_X12_partAt_4 n) x2 x1 q17.2 else f_X12_partAt_30 (f_X12_partAt_4 n) x2 (x2 + (1 : Int32)) q17.2 else none
noncomputable def f_X12_partAt (S : St) : Option (Int32 × St) := f_X12_partAt_4 FU (-1 : Int32) (0 : Int32) S
set_option maxRecDepth 100000 in
set_option maxHeartbeats 4000000 in
theorem w_X12_partAt_30 {D : k_D} {dy : Nat → Nat} {k4 : Int32 → Int32 → St → Option (Int32 × St)} (hk4 : ∀ (x1 : Int32) (x2 : Int32) (S : St) (out : Int32 × St), k4 x1 x2 S = some out → Rn yX12_partAt cX12_partAt 3 (some .int) (k_rm 1) 0 0 D dy S (k_Pi dy out) 4 [(0, .ref (D.2.2 51)), (1, .int x1), (2, .int x2)] []) (x2 : Int32) (s0 : Int32) (S : St) (out : Int32 × St) (h : f_X12_partAt_30 k4 x2 s0 S = some out) : Rn yX12_partAt cX12_partAt 3 (some .int) (k_rm 1) 0 0 D dy S (k_Pi dy out) 30 [(0, .ref (D.2.2 51)), (2, .int x2)] [.int s0] := by
    unfold f_X12_partAt_30 at h
    refine r_istore_n dX12_partAt_30 rfl (by decide) rfl ?_
    refine r_iinc (q := 2) (v := x2 + (1 : Int32)) dX12_partAt_31 rfl rfl (by decide) rfl ?_
    refine r_goto (t := 4) dX12_partAt_34 (by decide) ?_
    refine r_sub [2, 1, 0] rfl ?_
    exact hk4 _ _ _ _ h
set_option maxRecDepth 100000 in
set_option maxHeartbeats 4000000 in
theorem w_X12_partAt_4 {D : k_D} {dy : Nat → Nat} : ∀ (n : Nat) (x1 : Int32) (x2 : Int32) (S : St) (out : Int32 × St), f_X12_partAt_4 n x1 x2 S = some out → Rn yX12_partAt cX12_partAt 3 (some .int) (k_rm 1) 0 0 D dy S (k_Pi dy out) 4 [(0, .ref (D.2.2 51)), (1, .int x1), (2, .int x2)] [] := by
  intro n
  induction n with
  | zero => intro x1 x2 S out h; cases h
  | succ n ih =>
    intro x1 x2 S out h
    rw [f_X12_partAt_4] at h
    refine r_iload_n 2 dX12_partAt_4 rfl rfl ?_
    refine r_bipush (v := 7) dX12_partAt_5 rfl ?_
    refine r_icmp_ge (t := 37) dX12_partAt_7 (by decide) (fun c => ?_) (fun c => ?_)
    · rw [if_pos c] at h
      refine r_iload_n 1 dX12_partAt_37 rfl rfl ?_
      cases h
      exact r_iret rfl dX12_partAt_38 ⟨rfl, rfl, rfl⟩
    · rw [if_neg c] at h
      refine r_aload_n 0 dX12_partAt_10 rfl rfl ?_
      refine r_aload_n 0 dX12_partAt_11 rfl rfl ?_
      refine gf_51_25 q_1336 dX12_partAt_12 ?_
      refine r_iload_n 2 dX12_partAt_15 rfl rfl ?_
      obtain ⟨c1, h⟩ := g_ite h
      refine al_62 (k_b_in c1) dX12_partAt_16 ?_
      obtain ⟨q17, hq17, h⟩ := g_bind h
      refine r_callVi [.long (gL S 62 x2.toNatClampNeg)] [] q17 (ok_X12_isWord hq17) q_1636 q_1638 q_107 q_1639 q_153 hd_X12_isWord (ce_51 D dy _) kc12.1 rfl ⟨Nat.le_of_ble_eq_true rfl, Nat.le_of_ble_eq_true rfl⟩ rfl rfl (Nat.le_of_ble_eq_true rfl) dX12_partAt_17 ?_
      refine r_if_eq (t := 29) dX12_partAt_20 (by decide) (fun c => ?_) (fun c => ?_)
      · rw [if_pos c] at h
        refine r_iload_n 1 dX12_partAt_29 rfl rfl ?_
        refine r_sub [0, 2] rfl ?_
        exact w_X12_partAt_30 ih _ _ _ _ h
      · rw [if_neg c] at h
        refine r_iload_n 2 dX12_partAt_23 rfl rfl ?_
        refine r_iconst (v := 1) dX12_partAt_24 rfl ?_
        refine r_iadd dX12_partAt_25 ?_
        refine r_goto (t := 30) dX12_partAt_26 (by decide) ?_
        refine r_sub [0, 2] rfl ?_
        exact w_X12_partAt_30 ih _ _ _ _ h
set_option maxRecDepth 100000 in
set_option maxHeartbeats 4000000 in
theorem w_X12_partAt_0 {D : k_D} {dy : Nat → Nat} (S : St) (out : Int32 × St) (h : f_X12_partAt S = some out) : Rn yX12_partAt cX12_partAt 3 (some .int) (k_rm 1) 0 0 D dy S (k_Pi dy out) 0 [(0, .ref (D.2.2 51))] [] := by
    unfold f_X12_partAt at h
    refine r_iconst (v := -1) dX12_partAt_0 rfl ?_
    refine r_istore_n dX12_partAt_1 rfl (by decide) rfl ?_
    refine r_iconst (v := 0) dX12_partAt_2 rfl ?_
    refine r_istore_n dX12_partAt_3 rfl (by decide) rfl ?_
    refine r_sub [2, 1, 0] rfl ?_
    exact w_X12_partAt_4 _ _ _ _ _ h
theorem ok_X12_partAt {D : k_D} {dy : Nat → Nat} {S : St} {out : Int32 × St} (h : f_X12_partAt S = some out) : Sp yX12_partAt cX12_partAt 3 (some .int) (k_rm 1) D dy S [.ref (D.2.2 51)] (k_Pi dy out) := Sp.of (by decide +kernel) (Nat.le_of_ble_eq_true rfl) (w_X12_partAt_0 S out h)
noncomputable def f_X12_openBracket_41 (S : St) : Option (St) := some S
noncomputable def f_X12_openBracket_15 (x1 : Int32) (s1 : Int32) (S : St) : Option (St) := (f_X12_must s1 S).bind fun q15 => if (gI q15 41) = 0 then k_let (sI q15 46 ((gI q15 46) + (1 : Int32))) fun S1 => (f_X12_push x1 (0 : Int32) S1).bind fun q38 => f_X12_openBracket_41 q38 else f_X12_openBracket_41 q15
noncomputable def f_X12_openBracket (x1 : Int32) (S : St) : Option (St) := if (8 : Int32) ≤ (gI S 46) then f_X12_openBracket_15 x1 (0 : Int32) S else f_X12_openBracket_15 x1 (1 : Int32) S
set_option maxRecDepth 100000 in
set_option maxHeartbeats 4000000 in
theorem w_X12_openBracket_41 {D : k_D} {dy : Nat → Nat} (S : St) (out : St) (h : f_X12_openBracket_41 S = some out) : Rn yX12_openBracket cX12_openBracket 2 none (k_rm 3) 0 0 D dy S (k_Pv dy out) 41 [] [] := by
    unfold f_X12_openBracket_41 at h
    exact r_vret rfl dX12_openBracket_41 ⟨rfl, rfl, Option.some.inj h⟩
set_option maxRecDepth 100000 in
set_option maxHeartbeats 4000000 in
theorem w_X12_openBracket_15 {D : k_D} {dy : Nat → Nat} (x1 : Int32) (s1 : Int32) (S : St) (out : St) (h : f_X12_openBracket_15 x1 s1 S = some out) : Rn yX12_openBracket cX12_openBracket 2 none (k_rm 3) 0 0 D dy S (k_Pv dy out) 15 [(0, .ref (D.2.2 51)), (1, .int x1)] [.int s1, .ref (D.2.2 51)] := by
    unfold f_X12_openBracket_15 at h
    obtain ⟨q15, hq15, h⟩ := g_bind h
    refine r_callVv [.int s1] [] q15 (ok_X12_must hq15) q_1640 q_1642 q_108 q_1643 q_153 hd_X12_must (ce_51 D dy _) kc12.1 rfl ⟨Nat.le_of_ble_eq_true rfl, Nat.le_of_ble_eq_true rfl⟩ rfl rfl (Nat.le_of_ble_eq_true rfl) dX12_openBracket_15 ?_
    refine r_aload_n 0 dX12_openBracket_18 rfl rfl ?_
    refine gf_51_14 q_1325 dX12_openBracket_19 ?_
    refine r_if_ne (t := 41) dX12_openBracket_22 (by decide) (fun c => ?_) (fun c => ?_)
    · rw [if_neg c] at h
      refine r_sub [] rfl ?_
      exact w_X12_openBracket_41 _ _ h
    · rw [if_pos c] at h
      refine r_aload_n 0 dX12_openBracket_25 rfl rfl ?_
      refine r_dup dX12_openBracket_26 rfl ?_
      refine gf_51_24 q_1335 dX12_openBracket_27 ?_
      refine r_iconst (v := 1) dX12_openBracket_30 rfl ?_
      refine r_iadd dX12_openBracket_31 ?_
      refine pf_51_24 q_1335 dX12_openBracket_32 ?_
      generalize sI q15 46 ((gI q15 46) + (1 : Int32)) = S1 at h ⊢
      replace h := g_let h
      refine r_aload_n 0 dX12_openBracket_35 rfl rfl ?_
      refine r_iload_n 1 dX12_openBracket_36 rfl rfl ?_
      refine r_iconst (v := 0) dX12_openBracket_37 rfl ?_
      obtain ⟨q38, hq38, h⟩ := g_bind h
      refine r_callVv [.int x1, .int (0 : Int32)] [] q38 (ok_X12_push hq38) q_1653 q_1655 q_111 q_1656 q_153 hd_X12_push (ce_51 D dy _) kc12.1 rfl ⟨Nat.le_of_ble_eq_true rfl, Nat.le_of_ble_eq_true rfl⟩ rfl rfl (Nat.le_of_ble_eq_true rfl) dX12_openBracket_38 ?_
      refine r_sub [] rfl ?_
      exact w_X12_openBracket_41 _ _ h
set_option maxRecDepth 100000 in
set_option maxHeartbeats 4000000 in
theorem w_X12_openBracket_0 {D : k_D} {dy : Nat → Nat} (x1 : Int32) (S : St) (out : St) (h : f_X12_openBracket x1 S = some out) : Rn yX12_openBracket cX12_openBracket 2 none (k_rm 3) 0 0 D dy S (k_Pv dy out) 0 [(0, .ref (D.2.2 51)), (1, .int x1)] [] := by
    unfold f_X12_openBracket at h
    refine r_aload_n 0 dX12_openBracket_0 rfl rfl ?_
    refine r_aload_n 0 dX12_openBracket_1 rfl rfl ?_
    refine gf_51_24 q_1335 dX12_openBracket_2 ?_
    refine r_bipush (v := 8) dX12_openBracket_5 rfl ?_
    refine r_icmp_ge (t := 14) dX12_openBracket_7 (by decide) (fun c => ?_) (fun c => ?_)
    · rw [if_pos c] at h
      refine r_iconst (v := 0) dX12_openBracket_14 rfl ?_
      exact w_X12_openBracket_15 _ _ _ _ h
    · rw [if_neg c] at h
      refine r_iconst (v := 1) dX12_openBracket_10 rfl ?_
      refine r_goto (t := 15) dX12_openBracket_11 (by decide) ?_
      exact w_X12_openBracket_15 _ _ _ _ h
theorem ok_X12_openBracket {D : k_D} {dy : Nat → Nat} {x1 : Int32} {S : St} {out : St} (h : f_X12_openBracket x1 S = some out) : Sp yX12_openBracket cX12_openBracket 2 none (k_rm 3) D dy S [.ref (D.2.2 51), .int x1] (k_Pv dy out) := Sp.of (by decide +kernel) (Nat.le_of_ble_eq_true rfl) (w_X12_openBracket_0 _ S out h)
noncomputable def f_X12_leaf_45 (S : St) : Option (St) := some S
noncomputable def f_X12_leaf_19 (x2 : Int32) (x3 : Int32) (s1 : Int32) (S : St) : Option (St) := (f_X12_must s1 S).bind fun q19 => if (gI q19 41) = 0 then (f_X12_emit x2 x3 q19).bind fun q32 => k_let (sI q32 44 ((gI q32 44) + (1 : Int32))) fun S1 => f_X12_leaf_45 S1 else f_X12_leaf_45 q19
noncomputable def f_X12_leaf_18 (x2 : Int32) (x3 : Int32) (S : St) : Option (St) := f_X12_leaf_19 x2 x3 (0 : Int32) S
noncomputable def f_X12_leaf (x1 : Int32) (x2 : Int32) (x3 : Int32) (S : St) : Option (St) := if x1 = 0 then f_X12_leaf_18 x2 x3 S else if (50 : Int32) ≤ (gI S 44) then f_X12_leaf_18 x2 x3 S else f_X12_leaf_19 x2 x3 (1 : Int32) S
set_option maxRecDepth 100000 in
set_option maxHeartbeats 4000000 in
theorem w_X12_leaf_45 {D : k_D} {dy : Nat → Nat} (S : St) (out : St) (h : f_X12_leaf_45 S = some out) : Rn yX12_leaf cX12_leaf 4 none (k_rm 3) 0 0 D dy S (k_Pv dy out) 45 [] [] := by
    unfold f_X12_leaf_45 at h
    exact r_vret rfl dX12_leaf_45 ⟨rfl, rfl, Option.some.inj h⟩
set_option maxRecDepth 100000 in
set_option maxHeartbeats 4000000 in
theorem w_X12_leaf_19 {D : k_D} {dy : Nat → Nat} (x2 : Int32) (x3 : Int32) (s1 : Int32) (S : St) (out : St) (h : f_X12_leaf_19 x2 x3 s1 S = some out) : Rn yX12_leaf cX12_leaf 4 none (k_rm 3) 0 0 D dy S (k_Pv dy out) 19 [(0, .ref (D.2.2 51)), (2, .int x2), (3, .int x3)] [.int s1, .ref (D.2.2 51)] := by
    unfold f_X12_leaf_19 at h
    obtain ⟨q19, hq19, h⟩ := g_bind h
    refine r_callVv [.int s1] [] q19 (ok_X12_must hq19) q_1640 q_1642 q_108 q_1643 q_153 hd_X12_must (ce_51 D dy _) kc12.1 rfl ⟨Nat.le_of_ble_eq_true rfl, Nat.le_of_ble_eq_true rfl⟩ rfl rfl (Nat.le_of_ble_eq_true rfl) dX12_leaf_19 ?_
    refine r_aload_n 0 dX12_leaf_22 rfl rfl ?_
    refine gf_51_14 q_1325 dX12_leaf_23 ?_
    refine r_if_ne (t := 45) dX12_leaf_26 (by decide) (fun c => ?_) (fun c => ?_)
    · rw [if_neg c] at h
      refine r_sub [] rfl ?_
      exact w_X12_leaf_45 _ _ h
    · rw [if_pos c] at h
      refine r_aload_n 0 dX12_leaf_29 rfl rfl ?_
      refine r_iload_n 1 dX12_leaf_30 rfl rfl ?_
      refine r_iload_n 2 dX12_leaf_31 rfl rfl ?_
      obtain ⟨q32, hq32, h⟩ := g_bind h
      refine r_callVv [.int x2, .int x3] [] q32 (ok_X12_emit hq32) q_1678 q_1680 q_117 q_1681 q_153 hd_X12_emit (ce_51 D dy _) kc12.1 rfl ⟨Nat.le_of_ble_eq_true rfl, Nat.le_of_ble_eq_true rfl⟩ rfl rfl (Nat.le_of_ble_eq_true rfl) dX12_leaf_32 ?_
      refine r_aload_n 0 dX12_leaf_35 rfl rfl ?_
      refine r_dup dX12_leaf_36 rfl ?_
      refine gf_51_20 q_1331 dX12_leaf_37 ?_
      refine r_iconst (v := 1) dX12_leaf_40 rfl ?_
      refine r_iadd dX12_leaf_41 ?_
      refine pf_51_20 q_1331 dX12_leaf_42 ?_
      generalize sI q32 44 ((gI q32 44) + (1 : Int32)) = S1 at h ⊢
      replace h := g_let h
      refine r_sub [] rfl ?_
      exact w_X12_leaf_45 _ _ h
set_option maxRecDepth 100000 in
set_option maxHeartbeats 4000000 in
theorem w_X12_leaf_18 {D : k_D} {dy : Nat → Nat} (x2 : Int32) (x3 : Int32) (S : St) (out : St) (h : f_X12_leaf_18 x2 x3 S = some out) : Rn yX12_leaf cX12_leaf 4 none (k_rm 3) 0 0 D dy S (k_Pv dy out) 18 [(0, .ref (D.2.2 51)), (2, .int x2), (3, .int x3)] [.ref (D.2.2 51)] := by
    unfold f_X12_leaf_18 at h
    refine r_iconst (v := 0) dX12_leaf_18 rfl ?_
    exact w_X12_leaf_19 _ _ _ _ _ h
set_option maxRecDepth 100000 in
set_option maxHeartbeats 4000000 in
theorem w_X12_leaf_0 {D : k_D} {dy : Nat → Nat} (x1 : Int32) (x2 : Int32) (x3 : Int32) (S : St) (out : St) (h : f_X12_leaf x1 x2 x3 S = some out) : Rn yX12_leaf cX12_leaf 4 none (k_rm 3) 0 0 D dy S (k_Pv dy out) 0 [(0, .ref (D.2.2 51)), (1, .int x1), (2, .int x2), (3, .int x3)] [] := by
    unfold f_X12_leaf at h
    refine r_aload_n 0 dX12_leaf_0 rfl rfl ?_
    refine r_iload_n 1 dX12_leaf_1 rfl rfl ?_
    refine r_if_eq (t := 18) dX12_leaf_2 (by decide) (fun c => ?_) (fun c => ?_)
    · rw [if_pos c] at h
      refine r_sub [0, 2, 3] rfl ?_
      exact w_X12_leaf_18 _ _ _ _ h
    · rw [if_neg c] at h
      refine r_aload_n 0 dX12_leaf_5 rfl rfl ?_
      refine gf_51_20 q_1331 dX12_leaf_6 ?_
      refine r_bipush (v := 50) dX12_leaf_9 rfl ?_
      refine r_icmp_ge (t := 18) dX12_leaf_11 (by decide) (fun c => ?_) (fun c => ?_)
      · rw [if_pos c] at h
        refine r_sub [0, 2, 3] rfl ?_
        exact w_X12_leaf_18 _ _ _ _ h
      · rw [if_neg c] at h
        refine r_iconst (v := 1) dX12_leaf_14 rfl ?_
        refine r_goto (t := 19) dX12_leaf_15 (by decide) ?_
        refine r_sub [0, 2, 3] rfl ?_
        exact w_X12_leaf_19 _ _ _ _ _ h
theorem ok_X12_leaf {D : k_D} {dy : Nat → Nat} {x1 : Int32} {x2 : Int32} {x3 : Int32} {S : St} {out : St} (h : f_X12_leaf x1 x2 x3 S = some out) : Sp yX12_leaf cX12_leaf 4 none (k_rm 3) D dy S [.ref (D.2.2 51), .int x1, .int x2, .int x3] (k_Pv dy out) := Sp.of (by decide +kernel) (Nat.le_of_ble_eq_true rfl) (w_X12_leaf_0 _ _ _ S out h)
noncomputable def f_X12_readPart_85 (s1 : Int32) (s2 : Int32) (s3 : Int32) (S : St) : Option (Int32 × St) := (f_X12_leaf s1 s2 s3 S).bind fun q85 => some ((3 : Int32), q85)
noncomputable def f_X12_readPart_72 (x2 : Int32) (s1 : Int32) (s2 : Int32) (S : St) : Option (Int32 × St) := if x2 = 0 then f_X12_readPart_85 s1 s2 (0 : Int32) S else f_X12_readPart_85 s1 s2 ((gJ S 0).toInt32) S
noncomputable def f_X12_readPart_62 (x1 : Int32) (x2 : Int32) (s1 : Int32) (S : St) : Option (Int32 × St) := if x1 = (-1 : Int32) then f_X12_readPart_72 x2 s1 (0 : Int32) S else f_X12_readPart_72 x2 s1 x1 S
noncomputable def f_X12_readPart_57 (x1 : Int32) (x2 : Int32) (S : St) : Option (Int32 × St) := f_X12_readPart_62 x1 x2 (1 : Int32) S
noncomputable def f_X12_readPart_46 (x1 : Int32) (s0 : Int32) (S : St) : Option (Int32 × St) := if x1 = (-1 : Int32) then if s0 = 0 then f_X12_readPart_62 x1 s0 (0 : Int32) S else f_X12_readPart_57 x1 s0 S else f_X12_readPart_57 x1 s0 S
noncomputable def f_X12_readPart_45 (x1 : Int32) (S : St) : Option (Int32 × St) := f_X12_readPart_46 x1 (0 : Int32) S
noncomputable def f_X12_readPart (S : St) : Option (Int32 × St) := (f_X12_isSign (91 : Int32) S).bind fun q3 => if q3.1 = 0 then (f_X12_partAt q3.2).bind fun q18 => if (gI q18.2 39) = (2 : Int32) then if (1000 : Int64) < (gJ q18.2 0) then f_X12_readPart_45 q18.1 q18.2 else f_X12_readPart_46 q18.1 (1 : Int32) q18.2 else f_X12_readPart_45 q18.1 q18.2 else (f_X12_openBracket (31 : Int32) q3.2).bind fun q12 => some ((1 : Int32), q12)
set_option maxRecDepth 100000 in
set_option maxHeartbeats 4000000 in
theorem w_X12_readPart_85 {D : k_D} {dy : Nat → Nat} (s1 : Int32) (s2 : Int32) (s3 : Int32) (S : St) (out : Int32 × St) (h : f_X12_readPart_85 s1 s2 s3 S = some out) : Rn yX12_readPart cX12_readPart 3 (some .int) (k_rm 4) 0 0 D dy S (k_Pi dy out) 85 [] [.int s3, .int s2, .int s1, .ref (D.2.2 51)] := by
    unfold f_X12_readPart_85 at h
    obtain ⟨q85, hq85, h⟩ := g_bind h
    refine r_callVv [.int s1, .int s2, .int s3] [] q85 (ok_X12_leaf hq85) q_1674 q_1676 q_116 q_1677 q_153 hd_X12_leaf (ce_51 D dy _) kc12.1 rfl ⟨Nat.le_of_ble_eq_true rfl, Nat.le_of_ble_eq_true rfl⟩ rfl rfl (Nat.le_of_ble_eq_true rfl) dX12_readPart_85 ?_
    refine r_iconst (v := 3) dX12_readPart_88 rfl ?_
    cases h
    exact r_iret rfl dX12_readPart_89 ⟨rfl, rfl, rfl⟩
set_option maxRecDepth 100000 in
set_option maxHeartbeats 4000000 in
theorem w_X12_readPart_72 {D : k_D} {dy : Nat → Nat} (x2 : Int32) (s1 : Int32) (s2 : Int32) (S : St) (out : Int32 × St) (h : f_X12_readPart_72 x2 s1 s2 S = some out) : Rn yX12_readPart cX12_readPart 3 (some .int) (k_rm 4) 0 0 D dy S (k_Pi dy out) 72 [(0, .ref (D.2.2 51)), (2, .int x2)] [.int s2, .int s1, .ref (D.2.2 51)] := by
    unfold f_X12_readPart_72 at h
    refine r_iload_n 1 dX12_readPart_72 rfl rfl ?_
    refine r_if_eq (t := 84) dX12_readPart_73 (by decide) (fun c => ?_) (fun c => ?_)
    · rw [if_pos c] at h
      refine r_iconst (v := 0) dX12_readPart_84 rfl ?_
      refine r_sub [] rfl ?_
      exact w_X12_readPart_85 _ _ _ _ _ h
    · rw [if_neg c] at h
      refine r_aload_n 0 dX12_readPart_76 rfl rfl ?_
      refine gf_51_12 q_1323 dX12_readPart_77 ?_
      refine r_l2i dX12_readPart_80 ?_
      refine r_goto (t := 85) dX12_readPart_81 (by decide) ?_
      refine r_sub [] rfl ?_
      exact w_X12_readPart_85 _ _ _ _ _ h
set_option maxRecDepth 100000 in
set_option maxHeartbeats 4000000 in
theorem w_X12_readPart_62 {D : k_D} {dy : Nat → Nat} (x1 : Int32) (x2 : Int32) (s1 : Int32) (S : St) (out : Int32 × St) (h : f_X12_readPart_62 x1 x2 s1 S = some out) : Rn yX12_readPart cX12_readPart 3 (some .int) (k_rm 4) 0 0 D dy S (k_Pi dy out) 62 [(0, .ref (D.2.2 51)), (1, .int x1), (2, .int x2)] [.int s1, .ref (D.2.2 51)] := by
    unfold f_X12_readPart_62 at h
    refine r_iload_n 1 dX12_readPart_62 rfl rfl ?_
    refine r_iconst (v := -1) dX12_readPart_63 rfl ?_
    refine r_icmp_ne (t := 71) dX12_readPart_64 (by decide) (fun c => ?_) (fun c => ?_)
    · rw [if_neg c] at h
      refine r_iload_n 1 dX12_readPart_71 rfl rfl ?_
      refine r_sub [0, 2] rfl ?_
      exact w_X12_readPart_72 _ _ _ _ _ h
    · rw [if_pos c] at h
      refine r_iconst (v := 0) dX12_readPart_67 rfl ?_
      refine r_goto (t := 72) dX12_readPart_68 (by decide) ?_
      refine r_sub [0, 2] rfl ?_
      exact w_X12_readPart_72 _ _ _ _ _ h
set_option maxRecDepth 100000 in
set_option maxHeartbeats 4000000 in
theorem w_X12_readPart_57 {D : k_D} {dy : Nat → Nat} (x1 : Int32) (x2 : Int32) (S : St) (out : Int32 × St) (h : f_X12_readPart_57 x1 x2 S = some out) : Rn yX12_readPart cX12_readPart 3 (some .int) (k_rm 4) 0 0 D dy S (k_Pi dy out) 57 [(0, .ref (D.2.2 51)), (1, .int x1), (2, .int x2)] [.ref (D.2.2 51)] := by
    unfold f_X12_readPart_57 at h
    refine r_iconst (v := 1) dX12_readPart_57 rfl ?_
    refine r_goto (t := 62) dX12_readPart_58 (by decide) ?_
    exact w_X12_readPart_62 _ _ _ _ _ h
set_option maxRecDepth 100000 in
set_option maxHeartbeats 4000000 in
theorem w_X12_readPart_46 {D : k_D} {dy : Nat → Nat} (x1 : Int32) (s0 : Int32) (S : St) (out : Int32 × St) (h : f_X12_readPart_46 x1 s0 S = some out) : Rn yX12_readPart cX12_readPart 3 (some .int) (k_rm 4) 0 0 D dy S (k_Pi dy out) 46 [(0, .ref (D.2.2 51)), (1, .int x1)] [.int s0] := by
    unfold f_X12_readPart_46 at h
    refine r_istore_n dX12_readPart_46 rfl (by decide) rfl ?_
    refine r_aload_n 1 dX12_readPart_47 rfl rfl ?_
    refine r_iload_n 2 dX12_readPart_48 rfl rfl ?_
    refine r_iconst (v := -1) dX12_readPart_49 rfl ?_
    refine r_icmp_ne (t := 57) dX12_readPart_50 (by decide) (fun c => ?_) (fun c => ?_)
    · rw [if_neg c] at h
      refine r_sub [1, 2, 0] rfl ?_
      exact w_X12_readPart_57 _ _ _ _ h
    · rw [if_pos c] at h
      refine r_iload_n 0 dX12_readPart_53 rfl rfl ?_
      refine r_if_eq (t := 61) dX12_readPart_54 (by decide) (fun c => ?_) (fun c => ?_)
      · rw [if_pos c] at h
        refine r_iconst (v := 0) dX12_readPart_61 rfl ?_
        refine r_sub [1, 2, 0] rfl ?_
        exact w_X12_readPart_62 _ _ _ _ _ h
      · rw [if_neg c] at h
        refine r_sub [1, 2, 0] rfl ?_
        exact w_X12_readPart_57 _ _ _ _ h
set_option maxRecDepth 100000 in
set_option maxHeartbeats 4000000 in
theorem w_X12_readPart_45 {D : k_D} {dy : Nat → Nat} (x1 : Int32) (S : St) (out : Int32 × St) (h : f_X12_readPart_45 x1 S = some out) : Rn yX12_readPart cX12_readPart 3 (some .int) (k_rm 4) 0 0 D dy S (k_Pi dy out) 45 [(0, .ref (D.2.2 51)), (1, .int x1)] [] := by
    unfold f_X12_readPart_45 at h
    refine r_iconst (v := 0) dX12_readPart_45 rfl ?_
    exact w_X12_readPart_46 _ _ _ _ h
set_option maxRecDepth 100000 in
set_option maxHeartbeats 4000000 in
theorem w_X12_readPart_0 {D : k_D} {dy : Nat → Nat} (S : St) (out : Int32 × St) (h : f_X12_readPart S = some out) : Rn yX12_readPart cX12_readPart 3 (some .int) (k_rm 4) 0 0 D dy S (k_Pi dy out) 0 [(0, .ref (D.2.2 51))] [] := by
    unfold f_X12_readPart at h
    refine r_aload_n 0 dX12_readPart_0 rfl rfl ?_
    refine r_bipush (v := 91) dX12_readPart_1 rfl ?_
    obtain ⟨q3, hq3, h⟩ := g_bind h
    refine r_callVi [.int (91 : Int32)] [] q3 (ok_X12_isSign hq3) q_1657 q_1659 q_112 q_1660 q_153 hd_X12_isSign (ce_51 D dy _) kc12.1 rfl ⟨Nat.le_of_ble_eq_true rfl, Nat.le_of_ble_eq_true rfl⟩ rfl rfl (Nat.le_of_ble_eq_true rfl) dX12_readPart_3 ?_
    refine r_if_eq (t := 17) dX12_readPart_6 (by decide) (fun c => ?_) (fun c => ?_)
    · rw [if_pos c] at h
      refine r_aload_n 0 dX12_readPart_17 rfl rfl ?_
      obtain ⟨q18, hq18, h⟩ := g_bind h
      refine r_callVi [] [] q18 (ok_X12_partAt hq18) q_1669 q_1671 q_115 q_1672 q_153 hd_X12_partAt (ce_51 D dy _) kc12.1 rfl ⟨Nat.le_of_ble_eq_true rfl, Nat.le_of_ble_eq_true rfl⟩ rfl rfl (Nat.le_of_ble_eq_true rfl) dX12_readPart_18 ?_
      refine r_istore_n dX12_readPart_21 rfl (by decide) rfl ?_
      refine r_aload_n 1 dX12_readPart_22 rfl rfl ?_
      refine gf_51_11 q_1322 dX12_readPart_23 ?_
      refine r_iconst (v := 2) dX12_readPart_26 rfl ?_
      refine r_icmp_ne (t := 45) dX12_readPart_27 (by decide) (fun c => ?_) (fun c => ?_)
      · rw [if_neg c] at h
        refine r_sub [1, 0] rfl ?_
        exact w_X12_readPart_45 _ _ _ h
      · rw [if_pos c] at h
        refine r_aload_n 1 dX12_readPart_30 rfl rfl ?_
        refine gf_51_12 q_1323 dX12_readPart_31 ?_
        refine r_ldc2 (v := 1000) q_1673 dX12_readPart_34 ?_
        refine r_lcmp dX12_readPart_37 ?_
        refine r_if_gt (t := 45) dX12_readPart_38 (by decide) (fun c => ?_) (fun c => ?_)
        · rw [if_pos (lc_gt.mp c)] at h
          refine r_sub [1, 0] rfl ?_
          exact w_X12_readPart_45 _ _ _ h
        · rw [if_neg (fun z => c (lc_gt.mpr z))] at h
          refine r_iconst (v := 1) dX12_readPart_41 rfl ?_
          refine r_goto (t := 46) dX12_readPart_42 (by decide) ?_
          refine r_sub [1, 0] rfl ?_
          exact w_X12_readPart_46 _ _ _ _ h
    · rw [if_neg c] at h
      refine r_aload_n 0 dX12_readPart_9 rfl rfl ?_
      refine r_bipush (v := 31) dX12_readPart_10 rfl ?_
      obtain ⟨q12, hq12, h⟩ := g_bind h
      refine r_callVv [.int (31 : Int32)] [] q12 (ok_X12_openBracket hq12) q_1661 q_1663 q_113 q_1664 q_153 hd_X12_openBracket (ce_51 D dy _) kc12.1 rfl ⟨Nat.le_of_ble_eq_true rfl, Nat.le_of_ble_eq_true rfl⟩ rfl rfl (Nat.le_of_ble_eq_true rfl) dX12_readPart_12 ?_
      refine r_iconst (v := 1) dX12_readPart_15 rfl ?_
      cases h
      exact r_iret rfl dX12_readPart_16 ⟨rfl, rfl, rfl⟩
theorem ok_X12_readPart {D : k_D} {dy : Nat → Nat} {S : St} {out : Int32 × St} (h : f_X12_readPart S = some out) : Sp yX12_readPart cX12_readPart 3 (some .int) (k_rm 4) D dy S [.ref (D.2.2 51)] (k_Pi dy out) := Sp.of (by decide +kernel) (Nat.le_of_ble_eq_true rfl) (w_X12_readPart_0 S out h)
noncomputable def f_X12_readPlain (S : St) : Option (Int32 × St) := (f_X12_isWord (14836 : Int64) S).bind fun q4 => if q4.1 = 0 then (f_X12_isSign (40 : Int32) q4.2).bind fun q26 => if q26.1 = 0 then (f_X12_readPart q26.2).bind fun q41 => some (q41.1, q41.2) else (f_X12_openBracket (30 : Int32) q26.2).bind fun q35 => some ((0 : Int32), q35) else (f_X12_push (27 : Int32) (0 : Int32) q4.2).bind fun q14 => (f_X12_next q14).bind fun q18 => some ((0 : Int32), q18)
set_option maxRecDepth 100000 in
set_option maxHeartbeats 4000000 in
theorem w_X12_readPlain_0 {D : k_D} {dy : Nat → Nat} (S : St) (out : Int32 × St) (h : f_X12_readPlain S = some out) : Rn yX12_readPlain cX12_readPlain 1 (some .int) (k_rm 5) 0 0 D dy S (k_Pi dy out) 0 [(0, .ref (D.2.2 51))] [] := by
    unfold f_X12_readPlain at h
    refine r_aload_n 0 dX12_readPlain_0 rfl rfl ?_
    refine r_ldc2 (v := 14836) q_1652 dX12_readPlain_1 ?_
    obtain ⟨q4, hq4, h⟩ := g_bind h
    refine r_callVi [.long (14836 : Int64)] [] q4 (ok_X12_isWord hq4) q_1636 q_1638 q_107 q_1639 q_153 hd_X12_isWord (ce_51 D dy _) kc12.1 rfl ⟨Nat.le_of_ble_eq_true rfl, Nat.le_of_ble_eq_true rfl⟩ rfl rfl (Nat.le_of_ble_eq_true rfl) dX12_readPlain_4 ?_
    refine r_if_eq (t := 23) dX12_readPlain_7 (by decide) (fun c => ?_) (fun c => ?_)
    · rw [if_pos c] at h
      refine r_aload_n 0 dX12_readPlain_23 rfl rfl ?_
      refine r_bipush (v := 40) dX12_readPlain_24 rfl ?_
      obtain ⟨q26, hq26, h⟩ := g_bind h
      refine r_callVi [.int (40 : Int32)] [] q26 (ok_X12_isSign hq26) q_1657 q_1659 q_112 q_1660 q_153 hd_X12_isSign (ce_51 D dy _) kc12.1 rfl ⟨Nat.le_of_ble_eq_true rfl, Nat.le_of_ble_eq_true rfl⟩ rfl rfl (Nat.le_of_ble_eq_true rfl) dX12_readPlain_26 ?_
      refine r_if_eq (t := 40) dX12_readPlain_29 (by decide) (fun c => ?_) (fun c => ?_)
      · rw [if_pos c] at h
        refine r_aload_n 0 dX12_readPlain_40 rfl rfl ?_
        obtain ⟨q41, hq41, h⟩ := g_bind h
        refine r_callVi [] [] q41 (ok_X12_readPart hq41) q_1665 q_1667 q_114 q_1668 q_153 hd_X12_readPart (ce_51 D dy _) kc12.1 rfl ⟨Nat.le_of_ble_eq_true rfl, Nat.le_of_ble_eq_true rfl⟩ rfl rfl (Nat.le_of_ble_eq_true rfl) dX12_readPlain_41 ?_
        cases h
        exact r_iret rfl dX12_readPlain_44 ⟨rfl, rfl, rfl⟩
      · rw [if_neg c] at h
        refine r_aload_n 0 dX12_readPlain_32 rfl rfl ?_
        refine r_bipush (v := 30) dX12_readPlain_33 rfl ?_
        obtain ⟨q35, hq35, h⟩ := g_bind h
        refine r_callVv [.int (30 : Int32)] [] q35 (ok_X12_openBracket hq35) q_1661 q_1663 q_113 q_1664 q_153 hd_X12_openBracket (ce_51 D dy _) kc12.1 rfl ⟨Nat.le_of_ble_eq_true rfl, Nat.le_of_ble_eq_true rfl⟩ rfl rfl (Nat.le_of_ble_eq_true rfl) dX12_readPlain_35 ?_
        refine r_iconst (v := 0) dX12_readPlain_38 rfl ?_
        cases h
        exact r_iret rfl dX12_readPlain_39 ⟨rfl, rfl, rfl⟩
    · rw [if_neg c] at h
      refine r_aload_n 0 dX12_readPlain_10 rfl rfl ?_
      refine r_bipush (v := 27) dX12_readPlain_11 rfl ?_
      refine r_iconst (v := 0) dX12_readPlain_13 rfl ?_
      obtain ⟨q14, hq14, h⟩ := g_bind h
      refine r_callVv [.int (27 : Int32), .int (0 : Int32)] [] q14 (ok_X12_push hq14) q_1653 q_1655 q_111 q_1656 q_153 hd_X12_push (ce_51 D dy _) kc12.1 rfl ⟨Nat.le_of_ble_eq_true rfl, Nat.le_of_ble_eq_true rfl⟩ rfl rfl (Nat.le_of_ble_eq_true rfl) dX12_readPlain_14 ?_
      refine r_aload_n 0 dX12_readPlain_17 rfl rfl ?_
      obtain ⟨q18, hq18, h⟩ := g_bind h
      refine r_callVv [] [] q18 (ok_X12_next hq18) q_1616 q_1618 q_105 q_1619 q_153 hd_X12_next (ce_51 D dy _) kc12.1 rfl ⟨Nat.le_of_ble_eq_true rfl, Nat.le_of_ble_eq_true rfl⟩ rfl rfl (Nat.le_of_ble_eq_true rfl) dX12_readPlain_18 ?_
      refine r_iconst (v := 0) dX12_readPlain_21 rfl ?_
      cases h
      exact r_iret rfl dX12_readPlain_22 ⟨rfl, rfl, rfl⟩
theorem ok_X12_readPlain {D : k_D} {dy : Nat → Nat} {S : St} {out : Int32 × St} (h : f_X12_readPlain S = some out) : Sp yX12_readPlain cX12_readPlain 1 (some .int) (k_rm 5) D dy S [.ref (D.2.2 51)] (k_Pi dy out) := Sp.of (by decide +kernel) (Nat.le_of_ble_eq_true rfl) (w_X12_readPlain_0 S out h)
noncomputable def f_X12_behindSum_231 (S : St) : Option (Int32 × St) := some ((1 : Int32), S)
noncomputable def f_X12_behindSum_210 (x2 : Int32) (s1 : Int32) (S : St) : Option (Int32 × St) := (f_X12_must s1 S).bind fun q210 => if (gI q210 41) = 0 then (f_X12_settle (5 : Int32) q210).bind fun q222 => (f_X12_push x2 (0 : Int32) q222).bind fun q228 => f_X12_behindSum_231 q228 else f_X12_behindSum_231 q210
noncomputable def f_X12_behindSum_205 (x2 : Int32) (S : St) : Option (Int32 × St) := f_X12_behindSum_210 x2 (1 : Int32) S
noncomputable def f_X12_behindSum_188 (s0 : Int32) (S : St) : Option (Int32 × St) := if s0 = (26 : Int32) then (f_X12_isSign (61 : Int32) S).bind fun q199 => if q199.1 = 0 then f_X12_behindSum_210 s0 (0 : Int32) q199.2 else f_X12_behindSum_205 s0 q199.2 else f_X12_behindSum_205 s0 S
noncomputable def f_X12_behindSum_149 (S : St) : Option (Int32 × St) := (f_X12_isCompared S).bind fun q150 => if q150.1 = 0 then (f_X12_isSign (60 : Int32) q150.2).bind fun q161 => if q161.1 = 0 then (f_X12_isSign (62 : Int32) q161.2).bind fun q175 => if q175.1 = 0 then f_X12_behindSum_188 (26 : Int32) q175.2 else f_X12_behindSum_188 (25 : Int32) q175.2 else f_X12_behindSum_188 (24 : Int32) q161.2 else some ((2 : Int32), q150.2)
noncomputable def f_X12_behindSum_136 (S : St) : Option (Int32 × St) := some ((3 : Int32), S)
noncomputable def f_X12_behindSum_57 (x1 : Int32) (s0 : Int32) (S : St) : Option (Int32 × St) := if s0 = (-1 : Int32) then (f_X12_inner S).bind fun q84 => if q84.1 = (31 : Int32) then (f_X12_isSign (93 : Int32) q84.2).bind fun q98 => (f_X12_must q98.1 q98.2).bind fun q101 => if (gI q101 41) = 0 then (f_X12_settle (5 : Int32) q101).bind fun q113 => k_let (sI q113 45 ((gI q113 45) - (1 : Int32))) fun S1 => k_let (sI S1 46 ((gI S1 46) - (1 : Int32))) fun S2 => f_X12_behindSum_136 S2 else f_X12_behindSum_136 q101 else if q84.1 = (-1 : Int32) then if x1 = 0 then some ((4 : Int32), q84.2) else f_X12_behindSum_149 q84.2 else f_X12_behindSum_149 q84.2 else (f_X12_binds s0 S).bind fun q65 => (f_X12_settle q65.1 q65.2).bind fun q68 => (f_X12_push s0 (0 : Int32) q68).bind fun q74 => (f_X12_next q74).bind fun q78 => some ((1 : Int32), q78)
noncomputable def f_X12_behindSum (x1 : Int32) (S : St) : Option (Int32 × St) := (f_X12_isSign (43 : Int32) S).bind fun q3 => if q3.1 = 0 then (f_X12_isSign (45 : Int32) q3.2).bind fun q17 => if q17.1 = 0 then (f_X12_isSign (42 : Int32) q17.2).bind fun q31 => if q31.1 = 0 then (f_X12_isSign (47 : Int32) q31.2).bind fun q45 => if q45.1 = 0 then f_X12_behindSum_57 x1 (-1 : Int32) q45.2 else f_X12_behindSum_57 x1 (23 : Int32) q45.2 else f_X12_behindSum_57 x1 (22 : Int32) q31.2 else f_X12_behindSum_57 x1 (21 : Int32) q17.2 else f_X12_behindSum_57 x1 (20 : Int32) q3.2
set_option maxRecDepth 100000 in
set_option maxHeartbeats 4000000 in
theorem w_X12_behindSum_231 {D : k_D} {dy : Nat → Nat} (S : St) (out : Int32 × St) (h : f_X12_behindSum_231 S = some out) : Rn yX12_behindSum cX12_behindSum 4 (some .int) (k_rm 3) 0 0 D dy S (k_Pi dy out) 231 [] [] := by
    unfold f_X12_behindSum_231 at h
    refine r_iconst (v := 1) dX12_behindSum_231 rfl ?_
    cases h
    exact r_iret rfl dX12_behindSum_232 ⟨rfl, rfl, rfl⟩
set_option maxRecDepth 100000 in
set_option maxHeartbeats 4000000 in
theorem w_X12_behindSum_210 {D : k_D} {dy : Nat → Nat} (x2 : Int32) (s1 : Int32) (S : St) (out : Int32 × St) (h : f_X12_behindSum_210 x2 s1 S = some out) : Rn yX12_behindSum cX12_behindSum 4 (some .int) (k_rm 3) 0 0 D dy S (k_Pi dy out) 210 [(0, .ref (D.2.2 51)), (2, .int x2)] [.int s1, .ref (D.2.2 51)] := by
    unfold f_X12_behindSum_210 at h
    obtain ⟨q210, hq210, h⟩ := g_bind h
    refine r_callVv [.int s1] [] q210 (ok_X12_must hq210) q_1640 q_1642 q_108 q_1643 q_153 hd_X12_must (ce_51 D dy _) kc12.1 rfl ⟨Nat.le_of_ble_eq_true rfl, Nat.le_of_ble_eq_true rfl⟩ rfl rfl (Nat.le_of_ble_eq_true rfl) dX12_behindSum_210 ?_
    refine r_aload_n 0 dX12_behindSum_213 rfl rfl ?_
    refine gf_51_14 q_1325 dX12_behindSum_214 ?_
    refine r_if_ne (t := 231) dX12_behindSum_217 (by decide) (fun c => ?_) (fun c => ?_)
    · rw [if_neg c] at h
      refine r_sub [] rfl ?_
      exact w_X12_behindSum_231 _ _ h
    · rw [if_pos c] at h
      refine r_aload_n 0 dX12_behindSum_220 rfl rfl ?_
      refine r_iconst (v := 5) dX12_behindSum_221 rfl ?_
      obtain ⟨q222, hq222, h⟩ := g_bind h
      refine r_callVv [.int (5 : Int32)] [] q222 (ok_X12_settle hq222) q_1689 q_1691 q_119 q_1692 q_153 hd_X12_settle (ce_51 D dy _) kc12.1 rfl ⟨Nat.le_of_ble_eq_true rfl, Nat.le_of_ble_eq_true rfl⟩ rfl rfl (Nat.le_of_ble_eq_true rfl) dX12_behindSum_222 ?_
      refine r_aload_n 0 dX12_behindSum_225 rfl rfl ?_
      refine r_iload_n 1 dX12_behindSum_226 rfl rfl ?_
      refine r_iconst (v := 0) dX12_behindSum_227 rfl ?_
      obtain ⟨q228, hq228, h⟩ := g_bind h
      refine r_callVv [.int x2, .int (0 : Int32)] [] q228 (ok_X12_push hq228) q_1653 q_1655 q_111 q_1656 q_153 hd_X12_push (ce_51 D dy _) kc12.1 rfl ⟨Nat.le_of_ble_eq_true rfl, Nat.le_of_ble_eq_true rfl⟩ rfl rfl (Nat.le_of_ble_eq_true rfl) dX12_behindSum_228 ?_
      refine r_sub [] rfl ?_
      exact w_X12_behindSum_231 _ _ h
set_option maxRecDepth 100000 in
set_option maxHeartbeats 4000000 in
theorem w_X12_behindSum_205 {D : k_D} {dy : Nat → Nat} (x2 : Int32) (S : St) (out : Int32 × St) (h : f_X12_behindSum_205 x2 S = some out) : Rn yX12_behindSum cX12_behindSum 4 (some .int) (k_rm 3) 0 0 D dy S (k_Pi dy out) 205 [(0, .ref (D.2.2 51)), (2, .int x2)] [.ref (D.2.2 51)] := by
    unfold f_X12_behindSum_205 at h
    refine r_iconst (v := 1) dX12_behindSum_205 rfl ?_
    refine r_goto (t := 210) dX12_behindSum_206 (by decide) ?_
    exact w_X12_behindSum_210 _ _ _ _ h
set_option maxRecDepth 100000 in
set_option maxHeartbeats 4000000 in
theorem w_X12_behindSum_188 {D : k_D} {dy : Nat → Nat} (s0 : Int32) (S : St) (out : Int32 × St) (h : f_X12_behindSum_188 s0 S = some out) : Rn yX12_behindSum cX12_behindSum 4 (some .int) (k_rm 3) 0 0 D dy S (k_Pi dy out) 188 [(0, .ref (D.2.2 51))] [.int s0] := by
    unfold f_X12_behindSum_188 at h
    refine r_istore_n dX12_behindSum_188 rfl (by decide) rfl ?_
    refine r_aload_n 1 dX12_behindSum_189 rfl rfl ?_
    refine r_iload_n 0 dX12_behindSum_190 rfl rfl ?_
    refine r_bipush (v := 26) dX12_behindSum_191 rfl ?_
    refine r_icmp_ne (t := 205) dX12_behindSum_193 (by decide) (fun c => ?_) (fun c => ?_)
    · rw [if_neg c] at h
      refine r_sub [1, 0] rfl ?_
      exact w_X12_behindSum_205 _ _ _ h
    · rw [if_pos c] at h
      refine r_aload_n 1 dX12_behindSum_196 rfl rfl ?_
      refine r_bipush (v := 61) dX12_behindSum_197 rfl ?_
      obtain ⟨q199, hq199, h⟩ := g_bind h
      refine r_callVi [.int (61 : Int32)] [.ref (D.2.2 51)] q199 (ok_X12_isSign hq199) q_1657 q_1659 q_112 q_1660 q_153 hd_X12_isSign (ce_51 D dy _) kc12.1 rfl ⟨Nat.le_of_ble_eq_true rfl, Nat.le_of_ble_eq_true rfl⟩ rfl rfl (Nat.le_of_ble_eq_true rfl) dX12_behindSum_199 ?_
      refine r_if_eq (t := 209) dX12_behindSum_202 (by decide) (fun c => ?_) (fun c => ?_)
      · rw [if_pos c] at h
        refine r_iconst (v := 0) dX12_behindSum_209 rfl ?_
        refine r_sub [1, 0] rfl ?_
        exact w_X12_behindSum_210 _ _ _ _ h
      · rw [if_neg c] at h
        refine r_sub [1, 0] rfl ?_
        exact w_X12_behindSum_205 _ _ _ h
set_option maxRecDepth 100000 in
set_option maxHeartbeats 4000000 in
theorem w_X12_behindSum_149 {D : k_D} {dy : Nat → Nat} (S : St) (out : Int32 × St) (h : f_X12_behindSum_149 S = some out) : Rn yX12_behindSum cX12_behindSum 4 (some .int) (k_rm 3) 0 0 D dy S (k_Pi dy out) 149 [(0, .ref (D.2.2 51))] [] := by
    unfold f_X12_behindSum_149 at h
    refine r_aload_n 0 dX12_behindSum_149 rfl rfl ?_
    obtain ⟨q150, hq150, h⟩ := g_bind h
    refine r_callVi [] [] q150 (ok_X12_isCompared hq150) q_1697 q_1699 q_121 q_1700 q_153 hd_X12_isCompared (ce_51 D dy _) kc12.1 rfl ⟨Nat.le_of_ble_eq_true rfl, Nat.le_of_ble_eq_true rfl⟩ rfl rfl (Nat.le_of_ble_eq_true rfl) dX12_behindSum_150 ?_
    refine r_if_eq (t := 158) dX12_behindSum_153 (by decide) (fun c => ?_) (fun c => ?_)
    · rw [if_pos c] at h
      refine r_aload_n 0 dX12_behindSum_158 rfl rfl ?_
      refine r_bipush (v := 60) dX12_behindSum_159 rfl ?_
      obtain ⟨q161, hq161, h⟩ := g_bind h
      refine r_callVi [.int (60 : Int32)] [] q161 (ok_X12_isSign hq161) q_1657 q_1659 q_112 q_1660 q_153 hd_X12_isSign (ce_51 D dy _) kc12.1 rfl ⟨Nat.le_of_ble_eq_true rfl, Nat.le_of_ble_eq_true rfl⟩ rfl rfl (Nat.le_of_ble_eq_true rfl) dX12_behindSum_161 ?_
      refine r_if_eq (t := 172) dX12_behindSum_164 (by decide) (fun c => ?_) (fun c => ?_)
      · rw [if_pos c] at h
        refine r_aload_n 0 dX12_behindSum_172 rfl rfl ?_
        refine r_bipush (v := 62) dX12_behindSum_173 rfl ?_
        obtain ⟨q175, hq175, h⟩ := g_bind h
        refine r_callVi [.int (62 : Int32)] [] q175 (ok_X12_isSign hq175) q_1657 q_1659 q_112 q_1660 q_153 hd_X12_isSign (ce_51 D dy _) kc12.1 rfl ⟨Nat.le_of_ble_eq_true rfl, Nat.le_of_ble_eq_true rfl⟩ rfl rfl (Nat.le_of_ble_eq_true rfl) dX12_behindSum_175 ?_
        refine r_if_eq (t := 186) dX12_behindSum_178 (by decide) (fun c => ?_) (fun c => ?_)
        · rw [if_pos c] at h
          refine r_bipush (v := 26) dX12_behindSum_186 rfl ?_
          exact w_X12_behindSum_188 _ _ _ h
        · rw [if_neg c] at h
          refine r_bipush (v := 25) dX12_behindSum_181 rfl ?_
          refine r_goto (t := 188) dX12_behindSum_183 (by decide) ?_
          exact w_X12_behindSum_188 _ _ _ h
      · rw [if_neg c] at h
        refine r_bipush (v := 24) dX12_behindSum_167 rfl ?_
        refine r_goto (t := 188) dX12_behindSum_169 (by decide) ?_
        exact w_X12_behindSum_188 _ _ _ h
    · rw [if_neg c] at h
      refine r_iconst (v := 2) dX12_behindSum_156 rfl ?_
      cases h
      exact r_iret rfl dX12_behindSum_157 ⟨rfl, rfl, rfl⟩
set_option maxRecDepth 100000 in
set_option maxHeartbeats 4000000 in
theorem w_X12_behindSum_136 {D : k_D} {dy : Nat → Nat} (S : St) (out : Int32 × St) (h : f_X12_behindSum_136 S = some out) : Rn yX12_behindSum cX12_behindSum 4 (some .int) (k_rm 3) 0 0 D dy S (k_Pi dy out) 136 [] [] := by
    unfold f_X12_behindSum_136 at h
    refine r_iconst (v := 3) dX12_behindSum_136 rfl ?_
    cases h
    exact r_iret rfl dX12_behindSum_137 ⟨rfl, rfl, rfl⟩
set_option maxRecDepth 100000 in
set_option maxHeartbeats 4000000 in
theorem w_X12_behindSum_57 {D : k_D} {dy : Nat → Nat} (x1 : Int32) (s0 : Int32) (S : St) (out : Int32 × St) (h : f_X12_behindSum_57 x1 s0 S = some out) : Rn yX12_behindSum cX12_behindSum 4 (some .int) (k_rm 3) 0 0 D dy S (k_Pi dy out) 57 [(0, .ref (D.2.2 51)), (1, .int x1)] [.int s0] := by
    unfold f_X12_behindSum_57 at h
    refine r_istore_n dX12_behindSum_57 rfl (by decide) rfl ?_
    refine r_iload_n 0 dX12_behindSum_58 rfl rfl ?_
    refine r_iconst (v := -1) dX12_behindSum_59 rfl ?_
    refine r_icmp_eq (t := 83) dX12_behindSum_60 (by decide) (fun c => ?_) (fun c => ?_)
    · rw [if_pos c] at h
      refine r_aload_n 1 dX12_behindSum_83 rfl rfl ?_
      obtain ⟨q84, hq84, h⟩ := g_bind h
      refine r_callVi [] [] q84 (ok_X12_inner hq84) q_1693 q_1695 q_120 q_1696 q_153 hd_X12_inner (ce_51 D dy _) kc12.1 rfl ⟨Nat.le_of_ble_eq_true rfl, Nat.le_of_ble_eq_true rfl⟩ rfl rfl (Nat.le_of_ble_eq_true rfl) dX12_behindSum_84 ?_
      refine r_istore_n dX12_behindSum_87 rfl (by decide) rfl ?_
      refine r_iload_n 0 dX12_behindSum_88 rfl rfl ?_
      refine r_bipush (v := 31) dX12_behindSum_89 rfl ?_
      refine r_icmp_ne (t := 138) dX12_behindSum_91 (by decide) (fun c => ?_) (fun c => ?_)
      · rw [if_neg c] at h
        refine r_iload_n 0 dX12_behindSum_138 rfl rfl ?_
        refine r_iconst (v := -1) dX12_behindSum_139 rfl ?_
        refine r_icmp_ne (t := 149) dX12_behindSum_140 (by decide) (fun c => ?_) (fun c => ?_)
        · rw [if_neg c] at h
          refine r_sub [2] rfl ?_
          exact w_X12_behindSum_149 _ _ h
        · rw [if_pos c] at h
          refine r_iload_n 3 dX12_behindSum_143 rfl rfl ?_
          refine r_if_ne (t := 149) dX12_behindSum_144 (by decide) (fun c => ?_) (fun c => ?_)
          · rw [if_neg c] at h
            refine r_sub [2] rfl ?_
            exact w_X12_behindSum_149 _ _ h
          · rw [if_pos c] at h
            refine r_iconst (v := 4) dX12_behindSum_147 rfl ?_
            cases h
            exact r_iret rfl dX12_behindSum_148 ⟨rfl, rfl, rfl⟩
      · rw [if_pos c] at h
        refine r_aload_n 2 dX12_behindSum_94 rfl rfl ?_
        refine r_aload_n 2 dX12_behindSum_95 rfl rfl ?_
        refine r_bipush (v := 93) dX12_behindSum_96 rfl ?_
        obtain ⟨q98, hq98, h⟩ := g_bind h
        refine r_callVi [.int (93 : Int32)] [.ref (D.2.2 51)] q98 (ok_X12_isSign hq98) q_1657 q_1659 q_112 q_1660 q_153 hd_X12_isSign (ce_51 D dy _) kc12.1 rfl ⟨Nat.le_of_ble_eq_true rfl, Nat.le_of_ble_eq_true rfl⟩ rfl rfl (Nat.le_of_ble_eq_true rfl) dX12_behindSum_98 ?_
        obtain ⟨q101, hq101, h⟩ := g_bind h
        refine r_callVv [.int q98.1] [] q101 (ok_X12_must hq101) q_1640 q_1642 q_108 q_1643 q_153 hd_X12_must (ce_51 D dy _) kc12.1 rfl ⟨Nat.le_of_ble_eq_true rfl, Nat.le_of_ble_eq_true rfl⟩ rfl rfl (Nat.le_of_ble_eq_true rfl) dX12_behindSum_101 ?_
        refine r_aload_n 2 dX12_behindSum_104 rfl rfl ?_
        refine gf_51_14 q_1325 dX12_behindSum_105 ?_
        refine r_if_ne (t := 136) dX12_behindSum_108 (by decide) (fun c => ?_) (fun c => ?_)
        · rw [if_neg c] at h
          refine r_sub [] rfl ?_
          exact w_X12_behindSum_136 _ _ h
        · rw [if_pos c] at h
          refine r_aload_n 2 dX12_behindSum_111 rfl rfl ?_
          refine r_iconst (v := 5) dX12_behindSum_112 rfl ?_
          obtain ⟨q113, hq113, h⟩ := g_bind h
          refine r_callVv [.int (5 : Int32)] [] q113 (ok_X12_settle hq113) q_1689 q_1691 q_119 q_1692 q_153 hd_X12_settle (ce_51 D dy _) kc12.1 rfl ⟨Nat.le_of_ble_eq_true rfl, Nat.le_of_ble_eq_true rfl⟩ rfl rfl (Nat.le_of_ble_eq_true rfl) dX12_behindSum_113 ?_
          refine r_aload_n 2 dX12_behindSum_116 rfl rfl ?_
          refine r_dup dX12_behindSum_117 rfl ?_
          refine gf_51_23 q_1334 dX12_behindSum_118 ?_
          refine r_iconst (v := 1) dX12_behindSum_121 rfl ?_
          refine r_isub dX12_behindSum_122 ?_
          refine pf_51_23 q_1334 dX12_behindSum_123 ?_
          generalize sI q113 45 ((gI q113 45) - (1 : Int32)) = S1 at h ⊢
          replace h := g_let h
          refine r_aload_n 2 dX12_behindSum_126 rfl rfl ?_
          refine r_dup dX12_behindSum_127 rfl ?_
          refine gf_51_24 q_1335 dX12_behindSum_128 ?_
          refine r_iconst (v := 1) dX12_behindSum_131 rfl ?_
          refine r_isub dX12_behindSum_132 ?_
          refine pf_51_24 q_1335 dX12_behindSum_133 ?_
          generalize sI S1 46 ((gI S1 46) - (1 : Int32)) = S2 at h ⊢
          replace h := g_let h
          refine r_sub [] rfl ?_
          exact w_X12_behindSum_136 _ _ h
    · rw [if_neg c] at h
      refine r_aload_n 1 dX12_behindSum_63 rfl rfl ?_
      refine r_iload_n 0 dX12_behindSum_64 rfl rfl ?_
      obtain ⟨q65, hq65, h⟩ := g_bind h
      refine r_callSi [.int s0] [.ref (D.2.2 51)] q65 (ok_X12_binds hq65) q_1686 q_1687 q_1688 q_153 hd_X12_binds ⟨Nat.le_of_ble_eq_true rfl, Nat.le_of_ble_eq_true rfl⟩ rfl rfl (Nat.le_of_ble_eq_true rfl) dX12_behindSum_65 ?_
      obtain ⟨q68, hq68, h⟩ := g_bind h
      refine r_callVv [.int q65.1] [] q68 (ok_X12_settle hq68) q_1689 q_1691 q_119 q_1692 q_153 hd_X12_settle (ce_51 D dy _) kc12.1 rfl ⟨Nat.le_of_ble_eq_true rfl, Nat.le_of_ble_eq_true rfl⟩ rfl rfl (Nat.le_of_ble_eq_true rfl) dX12_behindSum_68 ?_
      refine r_aload_n 1 dX12_behindSum_71 rfl rfl ?_
      refine r_iload_n 0 dX12_behindSum_72 rfl rfl ?_
      refine r_iconst (v := 0) dX12_behindSum_73 rfl ?_
      obtain ⟨q74, hq74, h⟩ := g_bind h
      refine r_callVv [.int s0, .int (0 : Int32)] [] q74 (ok_X12_push hq74) q_1653 q_1655 q_111 q_1656 q_153 hd_X12_push (ce_51 D dy _) kc12.1 rfl ⟨Nat.le_of_ble_eq_true rfl, Nat.le_of_ble_eq_true rfl⟩ rfl rfl (Nat.le_of_ble_eq_true rfl) dX12_behindSum_74 ?_
      refine r_aload_n 1 dX12_behindSum_77 rfl rfl ?_
      obtain ⟨q78, hq78, h⟩ := g_bind h
      refine r_callVv [] [] q78 (ok_X12_next hq78) q_1616 q_1618 q_105 q_1619 q_153 hd_X12_next (ce_51 D dy _) kc12.1 rfl ⟨Nat.le_of_ble_eq_true rfl, Nat.le_of_ble_eq_true rfl⟩ rfl rfl (Nat.le_of_ble_eq_true rfl) dX12_behindSum_78 ?_
      refine r_iconst (v := 1) dX12_behindSum_81 rfl ?_
      cases h
      exact r_iret rfl dX12_behindSum_82 ⟨rfl, rfl, rfl⟩
set_option maxRecDepth 100000 in
set_option maxHeartbeats 4000000 in
theorem w_X12_behindSum_0 {D : k_D} {dy : Nat → Nat} (x1 : Int32) (S : St) (out : Int32 × St) (h : f_X12_behindSum x1 S = some out) : Rn yX12_behindSum cX12_behindSum 4 (some .int) (k_rm 3) 0 0 D dy S (k_Pi dy out) 0 [(0, .ref (D.2.2 51)), (1, .int x1)] [] := by
    unfold f_X12_behindSum at h
    refine r_aload_n 0 dX12_behindSum_0 rfl rfl ?_
    refine r_bipush (v := 43) dX12_behindSum_1 rfl ?_
    obtain ⟨q3, hq3, h⟩ := g_bind h
    refine r_callVi [.int (43 : Int32)] [] q3 (ok_X12_isSign hq3) q_1657 q_1659 q_112 q_1660 q_153 hd_X12_isSign (ce_51 D dy _) kc12.1 rfl ⟨Nat.le_of_ble_eq_true rfl, Nat.le_of_ble_eq_true rfl⟩ rfl rfl (Nat.le_of_ble_eq_true rfl) dX12_behindSum_3 ?_
    refine r_if_eq (t := 14) dX12_behindSum_6 (by decide) (fun c => ?_) (fun c => ?_)
    · rw [if_pos c] at h
      refine r_aload_n 0 dX12_behindSum_14 rfl rfl ?_
      refine r_bipush (v := 45) dX12_behindSum_15 rfl ?_
      obtain ⟨q17, hq17, h⟩ := g_bind h
      refine r_callVi [.int (45 : Int32)] [] q17 (ok_X12_isSign hq17) q_1657 q_1659 q_112 q_1660 q_153 hd_X12_isSign (ce_51 D dy _) kc12.1 rfl ⟨Nat.le_of_ble_eq_true rfl, Nat.le_of_ble_eq_true rfl⟩ rfl rfl (Nat.le_of_ble_eq_true rfl) dX12_behindSum_17 ?_
      refine r_if_eq (t := 28) dX12_behindSum_20 (by decide) (fun c => ?_) (fun c => ?_)
      · rw [if_pos c] at h
        refine r_aload_n 0 dX12_behindSum_28 rfl rfl ?_
        refine r_bipush (v := 42) dX12_behindSum_29 rfl ?_
        obtain ⟨q31, hq31, h⟩ := g_bind h
        refine r_callVi [.int (42 : Int32)] [] q31 (ok_X12_isSign hq31) q_1657 q_1659 q_112 q_1660 q_153 hd_X12_isSign (ce_51 D dy _) kc12.1 rfl ⟨Nat.le_of_ble_eq_true rfl, Nat.le_of_ble_eq_true rfl⟩ rfl rfl (Nat.le_of_ble_eq_true rfl) dX12_behindSum_31 ?_
        refine r_if_eq (t := 42) dX12_behindSum_34 (by decide) (fun c => ?_) (fun c => ?_)
        · rw [if_pos c] at h
          refine r_aload_n 0 dX12_behindSum_42 rfl rfl ?_
          refine r_bipush (v := 47) dX12_behindSum_43 rfl ?_
          obtain ⟨q45, hq45, h⟩ := g_bind h
          refine r_callVi [.int (47 : Int32)] [] q45 (ok_X12_isSign hq45) q_1657 q_1659 q_112 q_1660 q_153 hd_X12_isSign (ce_51 D dy _) kc12.1 rfl ⟨Nat.le_of_ble_eq_true rfl, Nat.le_of_ble_eq_true rfl⟩ rfl rfl (Nat.le_of_ble_eq_true rfl) dX12_behindSum_45 ?_
          refine r_if_eq (t := 56) dX12_behindSum_48 (by decide) (fun c => ?_) (fun c => ?_)
          · rw [if_pos c] at h
            refine r_iconst (v := -1) dX12_behindSum_56 rfl ?_
            exact w_X12_behindSum_57 _ _ _ _ h
          · rw [if_neg c] at h
            refine r_bipush (v := 23) dX12_behindSum_51 rfl ?_
            refine r_goto (t := 57) dX12_behindSum_53 (by decide) ?_
            exact w_X12_behindSum_57 _ _ _ _ h
        · rw [if_neg c] at h
          refine r_bipush (v := 22) dX12_behindSum_37 rfl ?_
          refine r_goto (t := 57) dX12_behindSum_39 (by decide) ?_
          exact w_X12_behindSum_57 _ _ _ _ h
      · rw [if_neg c] at h
        refine r_bipush (v := 21) dX12_behindSum_23 rfl ?_
        refine r_goto (t := 57) dX12_behindSum_25 (by decide) ?_
        exact w_X12_behindSum_57 _ _ _ _ h
    · rw [if_neg c] at h
      refine r_bipush (v := 20) dX12_behindSum_9 rfl ?_
      refine r_goto (t := 57) dX12_behindSum_11 (by decide) ?_
      exact w_X12_behindSum_57 _ _ _ _ h
theorem ok_X12_behindSum {D : k_D} {dy : Nat → Nat} {x1 : Int32} {S : St} {out : Int32 × St} (h : f_X12_behindSum x1 S = some out) : Sp yX12_behindSum cX12_behindSum 4 (some .int) (k_rm 3) D dy S [.ref (D.2.2 51), .int x1] (k_Pi dy out) := Sp.of (by decide +kernel) (Nat.le_of_ble_eq_true rfl) (w_X12_behindSum_0 _ S out h)
noncomputable def f_X12_behindTest_66 (s1 : Int32) (S : St) : Option (Int32 × St) := (f_X12_emit s1 (0 : Int32) S).bind fun q67 => (f_X12_next q67).bind fun q71 => some ((0 : Int32), q71)
noncomputable def f_X12_behindTest_47 (x1 : Int32) (s1 : Int32) (S : St) : Option (Int32 × St) := (f_X12_push s1 (gI S 43) S).bind fun q51 => if x1 = 0 then f_X12_behindTest_66 (29 : Int32) q51 else f_X12_behindTest_66 (28 : Int32) q51
noncomputable def f_X12_behindTest_32 (x1 : Int32) (s1 : Int32) (S : St) : Option (Int32 × St) := (f_X12_settle s1 S).bind fun q32 => if x1 = 0 then f_X12_behindTest_47 x1 (29 : Int32) q32 else f_X12_behindTest_47 x1 (28 : Int32) q32
noncomputable def f_X12_behindTest_22 (x1 : Int32) (S : St) : Option (Int32 × St) := if x1 = 0 then f_X12_behindTest_32 x1 (1 : Int32) S else f_X12_behindTest_32 x1 (2 : Int32) S
noncomputable def f_X12_behindTest_128 (S : St) : Option (Int32 × St) := some ((2 : Int32), S)
noncomputable def f_X12_behindTest (S : St) : Option (Int32 × St) := (f_X12_isWord (1476 : Int64) S).bind fun q4 => if q4.1 = 0 then (f_X12_isWord (498 : Int64) q4.2).bind fun q16 => if q16.1 = 0 then (f_X12_inner q16.2).bind fun q77 => if q77.1 = (-1 : Int32) then some ((4 : Int32), q77.2) else (f_X12_isSign (41 : Int32) q77.2).bind fun q90 => (f_X12_must q90.1 q90.2).bind fun q93 => if (gI q93 41) = 0 then (f_X12_settle (1 : Int32) q93).bind fun q105 => k_let (sI q105 45 ((gI q105 45) - (1 : Int32))) fun S1 => k_let (sI S1 46 ((gI S1 46) - (1 : Int32))) fun S2 => f_X12_behindTest_128 S2 else f_X12_behindTest_128 q93 else f_X12_behindTest_22 q4.1 q16.2 else f_X12_behindTest_22 q4.1 q4.2
set_option maxRecDepth 100000 in
set_option maxHeartbeats 4000000 in
theorem w_X12_behindTest_66 {D : k_D} {dy : Nat → Nat} (s1 : Int32) (S : St) (out : Int32 × St) (h : f_X12_behindTest_66 s1 S = some out) : Rn yX12_behindTest cX12_behindTest 2 (some .int) (k_rm 3) 0 0 D dy S (k_Pi dy out) 66 [(0, .ref (D.2.2 51))] [.int s1, .ref (D.2.2 51)] := by
    unfold f_X12_behindTest_66 at h
    refine r_iconst (v := 0) dX12_behindTest_66 rfl ?_
    obtain ⟨q67, hq67, h⟩ := g_bind h
    refine r_callVv [.int s1, .int (0 : Int32)] [] q67 (ok_X12_emit hq67) q_1678 q_1680 q_117 q_1681 q_153 hd_X12_emit (ce_51 D dy _) kc12.1 rfl ⟨Nat.le_of_ble_eq_true rfl, Nat.le_of_ble_eq_true rfl⟩ rfl rfl (Nat.le_of_ble_eq_true rfl) dX12_behindTest_67 ?_
    refine r_aload_n 0 dX12_behindTest_70 rfl rfl ?_
    obtain ⟨q71, hq71, h⟩ := g_bind h
    refine r_callVv [] [] q71 (ok_X12_next hq71) q_1616 q_1618 q_105 q_1619 q_153 hd_X12_next (ce_51 D dy _) kc12.1 rfl ⟨Nat.le_of_ble_eq_true rfl, Nat.le_of_ble_eq_true rfl⟩ rfl rfl (Nat.le_of_ble_eq_true rfl) dX12_behindTest_71 ?_
    refine r_iconst (v := 0) dX12_behindTest_74 rfl ?_
    cases h
    exact r_iret rfl dX12_behindTest_75 ⟨rfl, rfl, rfl⟩
set_option maxRecDepth 100000 in
set_option maxHeartbeats 4000000 in
theorem w_X12_behindTest_47 {D : k_D} {dy : Nat → Nat} (x1 : Int32) (s1 : Int32) (S : St) (out : Int32 × St) (h : f_X12_behindTest_47 x1 s1 S = some out) : Rn yX12_behindTest cX12_behindTest 2 (some .int) (k_rm 3) 0 0 D dy S (k_Pi dy out) 47 [(0, .ref (D.2.2 51)), (1, .int x1)] [.int s1, .ref (D.2.2 51)] := by
    unfold f_X12_behindTest_47 at h
    refine r_aload_n 0 dX12_behindTest_47 rfl rfl ?_
    refine gf_51_17 q_1328 dX12_behindTest_48 ?_
    obtain ⟨q51, hq51, h⟩ := g_bind h
    refine r_callVv [.int s1, .int (gI S 43)] [] q51 (ok_X12_push hq51) q_1653 q_1655 q_111 q_1656 q_153 hd_X12_push (ce_51 D dy _) kc12.1 rfl ⟨Nat.le_of_ble_eq_true rfl, Nat.le_of_ble_eq_true rfl⟩ rfl rfl (Nat.le_of_ble_eq_true rfl) dX12_behindTest_51 ?_
    refine r_aload_n 0 dX12_behindTest_54 rfl rfl ?_
    refine r_iload_n 1 dX12_behindTest_55 rfl rfl ?_
    refine r_if_eq (t := 64) dX12_behindTest_56 (by decide) (fun c => ?_) (fun c => ?_)
    · rw [if_pos c] at h
      refine r_bipush (v := 29) dX12_behindTest_64 rfl ?_
      refine r_sub [0] rfl ?_
      exact w_X12_behindTest_66 _ _ _ h
    · rw [if_neg c] at h
      refine r_bipush (v := 28) dX12_behindTest_59 rfl ?_
      refine r_goto (t := 66) dX12_behindTest_61 (by decide) ?_
      refine r_sub [0] rfl ?_
      exact w_X12_behindTest_66 _ _ _ h
set_option maxRecDepth 100000 in
set_option maxHeartbeats 4000000 in
theorem w_X12_behindTest_32 {D : k_D} {dy : Nat → Nat} (x1 : Int32) (s1 : Int32) (S : St) (out : Int32 × St) (h : f_X12_behindTest_32 x1 s1 S = some out) : Rn yX12_behindTest cX12_behindTest 2 (some .int) (k_rm 3) 0 0 D dy S (k_Pi dy out) 32 [(0, .ref (D.2.2 51)), (1, .int x1)] [.int s1, .ref (D.2.2 51)] := by
    unfold f_X12_behindTest_32 at h
    obtain ⟨q32, hq32, h⟩ := g_bind h
    refine r_callVv [.int s1] [] q32 (ok_X12_settle hq32) q_1689 q_1691 q_119 q_1692 q_153 hd_X12_settle (ce_51 D dy _) kc12.1 rfl ⟨Nat.le_of_ble_eq_true rfl, Nat.le_of_ble_eq_true rfl⟩ rfl rfl (Nat.le_of_ble_eq_true rfl) dX12_behindTest_32 ?_
    refine r_aload_n 0 dX12_behindTest_35 rfl rfl ?_
    refine r_iload_n 1 dX12_behindTest_36 rfl rfl ?_
    refine r_if_eq (t := 45) dX12_behindTest_37 (by decide) (fun c => ?_) (fun c => ?_)
    · rw [if_pos c] at h
      refine r_bipush (v := 29) dX12_behindTest_45 rfl ?_
      exact w_X12_behindTest_47 _ _ _ _ h
    · rw [if_neg c] at h
      refine r_bipush (v := 28) dX12_behindTest_40 rfl ?_
      refine r_goto (t := 47) dX12_behindTest_42 (by decide) ?_
      exact w_X12_behindTest_47 _ _ _ _ h
set_option maxRecDepth 100000 in
set_option maxHeartbeats 4000000 in
theorem w_X12_behindTest_22 {D : k_D} {dy : Nat → Nat} (x1 : Int32) (S : St) (out : Int32 × St) (h : f_X12_behindTest_22 x1 S = some out) : Rn yX12_behindTest cX12_behindTest 2 (some .int) (k_rm 3) 0 0 D dy S (k_Pi dy out) 22 [(0, .ref (D.2.2 51)), (1, .int x1)] [] := by
    unfold f_X12_behindTest_22 at h
    refine r_aload_n 0 dX12_behindTest_22 rfl rfl ?_
    refine r_iload_n 1 dX12_behindTest_23 rfl rfl ?_
    refine r_if_eq (t := 31) dX12_behindTest_24 (by decide) (fun c => ?_) (fun c => ?_)
    · rw [if_pos c] at h
      refine r_iconst (v := 1) dX12_behindTest_31 rfl ?_
      exact w_X12_behindTest_32 _ _ _ _ h
    · rw [if_neg c] at h
      refine r_iconst (v := 2) dX12_behindTest_27 rfl ?_
      refine r_goto (t := 32) dX12_behindTest_28 (by decide) ?_
      exact w_X12_behindTest_32 _ _ _ _ h
set_option maxRecDepth 100000 in
set_option maxHeartbeats 4000000 in
theorem w_X12_behindTest_128 {D : k_D} {dy : Nat → Nat} (S : St) (out : Int32 × St) (h : f_X12_behindTest_128 S = some out) : Rn yX12_behindTest cX12_behindTest 2 (some .int) (k_rm 3) 0 0 D dy S (k_Pi dy out) 128 [] [] := by
    unfold f_X12_behindTest_128 at h
    refine r_iconst (v := 2) dX12_behindTest_128 rfl ?_
    cases h
    exact r_iret rfl dX12_behindTest_129 ⟨rfl, rfl, rfl⟩
set_option maxRecDepth 100000 in
set_option maxHeartbeats 4000000 in
theorem w_X12_behindTest_0 {D : k_D} {dy : Nat → Nat} (S : St) (out : Int32 × St) (h : f_X12_behindTest S = some out) : Rn yX12_behindTest cX12_behindTest 2 (some .int) (k_rm 3) 0 0 D dy S (k_Pi dy out) 0 [(0, .ref (D.2.2 51))] [] := by
    unfold f_X12_behindTest at h
    refine r_aload_n 0 dX12_behindTest_0 rfl rfl ?_
    refine r_ldc2 (v := 1476) q_1709 dX12_behindTest_1 ?_
    obtain ⟨q4, hq4, h⟩ := g_bind h
    refine r_callVi [.long (1476 : Int64)] [] q4 (ok_X12_isWord hq4) q_1636 q_1638 q_107 q_1639 q_153 hd_X12_isWord (ce_51 D dy _) kc12.1 rfl ⟨Nat.le_of_ble_eq_true rfl, Nat.le_of_ble_eq_true rfl⟩ rfl rfl (Nat.le_of_ble_eq_true rfl) dX12_behindTest_4 ?_
    refine r_istore_n dX12_behindTest_7 rfl (by decide) rfl ?_
    refine r_iload_n 0 dX12_behindTest_8 rfl rfl ?_
    refine r_if_ne (t := 22) dX12_behindTest_9 (by decide) (fun c => ?_) (fun c => ?_)
    · rw [if_neg c] at h
      refine r_sub [1, 0] rfl ?_
      exact w_X12_behindTest_22 _ _ _ h
    · rw [if_pos c] at h
      refine r_aload_n 1 dX12_behindTest_12 rfl rfl ?_
      refine r_ldc2 (v := 498) q_1710 dX12_behindTest_13 ?_
      obtain ⟨q16, hq16, h⟩ := g_bind h
      refine r_callVi [.long (498 : Int64)] [] q16 (ok_X12_isWord hq16) q_1636 q_1638 q_107 q_1639 q_153 hd_X12_isWord (ce_51 D dy _) kc12.1 rfl ⟨Nat.le_of_ble_eq_true rfl, Nat.le_of_ble_eq_true rfl⟩ rfl rfl (Nat.le_of_ble_eq_true rfl) dX12_behindTest_16 ?_
      refine r_if_eq (t := 76) dX12_behindTest_19 (by decide) (fun c => ?_) (fun c => ?_)
      · rw [if_pos c] at h
        refine r_aload_n 1 dX12_behindTest_76 rfl rfl ?_
        obtain ⟨q77, hq77, h⟩ := g_bind h
        refine r_callVi [] [] q77 (ok_X12_inner hq77) q_1693 q_1695 q_120 q_1696 q_153 hd_X12_inner (ce_51 D dy _) kc12.1 rfl ⟨Nat.le_of_ble_eq_true rfl, Nat.le_of_ble_eq_true rfl⟩ rfl rfl (Nat.le_of_ble_eq_true rfl) dX12_behindTest_77 ?_
        refine r_iconst (v := -1) dX12_behindTest_80 rfl ?_
        refine r_icmp_ne (t := 86) dX12_behindTest_81 (by decide) (fun c => ?_) (fun c => ?_)
        · rw [if_neg c] at h
          refine r_aload_n 1 dX12_behindTest_86 rfl rfl ?_
          refine r_aload_n 1 dX12_behindTest_87 rfl rfl ?_
          refine r_bipush (v := 41) dX12_behindTest_88 rfl ?_
          obtain ⟨q90, hq90, h⟩ := g_bind h
          refine r_callVi [.int (41 : Int32)] [.ref (D.2.2 51)] q90 (ok_X12_isSign hq90) q_1657 q_1659 q_112 q_1660 q_153 hd_X12_isSign (ce_51 D dy _) kc12.1 rfl ⟨Nat.le_of_ble_eq_true rfl, Nat.le_of_ble_eq_true rfl⟩ rfl rfl (Nat.le_of_ble_eq_true rfl) dX12_behindTest_90 ?_
          obtain ⟨q93, hq93, h⟩ := g_bind h
          refine r_callVv [.int q90.1] [] q93 (ok_X12_must hq93) q_1640 q_1642 q_108 q_1643 q_153 hd_X12_must (ce_51 D dy _) kc12.1 rfl ⟨Nat.le_of_ble_eq_true rfl, Nat.le_of_ble_eq_true rfl⟩ rfl rfl (Nat.le_of_ble_eq_true rfl) dX12_behindTest_93 ?_
          refine r_aload_n 1 dX12_behindTest_96 rfl rfl ?_
          refine gf_51_14 q_1325 dX12_behindTest_97 ?_
          refine r_if_ne (t := 128) dX12_behindTest_100 (by decide) (fun c => ?_) (fun c => ?_)
          · rw [if_neg c] at h
            refine r_sub [] rfl ?_
            exact w_X12_behindTest_128 _ _ h
          · rw [if_pos c] at h
            refine r_aload_n 1 dX12_behindTest_103 rfl rfl ?_
            refine r_iconst (v := 1) dX12_behindTest_104 rfl ?_
            obtain ⟨q105, hq105, h⟩ := g_bind h
            refine r_callVv [.int (1 : Int32)] [] q105 (ok_X12_settle hq105) q_1689 q_1691 q_119 q_1692 q_153 hd_X12_settle (ce_51 D dy _) kc12.1 rfl ⟨Nat.le_of_ble_eq_true rfl, Nat.le_of_ble_eq_true rfl⟩ rfl rfl (Nat.le_of_ble_eq_true rfl) dX12_behindTest_105 ?_
            refine r_aload_n 1 dX12_behindTest_108 rfl rfl ?_
            refine r_dup dX12_behindTest_109 rfl ?_
            refine gf_51_23 q_1334 dX12_behindTest_110 ?_
            refine r_iconst (v := 1) dX12_behindTest_113 rfl ?_
            refine r_isub dX12_behindTest_114 ?_
            refine pf_51_23 q_1334 dX12_behindTest_115 ?_
            generalize sI q105 45 ((gI q105 45) - (1 : Int32)) = S1 at h ⊢
            replace h := g_let h
            refine r_aload_n 1 dX12_behindTest_118 rfl rfl ?_
            refine r_dup dX12_behindTest_119 rfl ?_
            refine gf_51_24 q_1335 dX12_behindTest_120 ?_
            refine r_iconst (v := 1) dX12_behindTest_123 rfl ?_
            refine r_isub dX12_behindTest_124 ?_
            refine pf_51_24 q_1335 dX12_behindTest_125 ?_
            generalize sI S1 46 ((gI S1 46) - (1 : Int32)) = S2 at h ⊢
            replace h := g_let h
            refine r_sub [] rfl ?_
            exact w_X12_behindTest_128 _ _ h
        · rw [if_pos c] at h
          refine r_iconst (v := 4) dX12_behindTest_84 rfl ?_
          cases h
          exact r_iret rfl dX12_behindTest_85 ⟨rfl, rfl, rfl⟩
      · rw [if_neg c] at h
        refine r_sub [1, 0] rfl ?_
        exact w_X12_behindTest_22 _ _ _ h
theorem ok_X12_behindTest {D : k_D} {dy : Nat → Nat} {S : St} {out : Int32 × St} (h : f_X12_behindTest S = some out) : Sp yX12_behindTest cX12_behindTest 2 (some .int) (k_rm 3) D dy S [.ref (D.2.2 51)] (k_Pi dy out) := Sp.of (by decide +kernel) (Nat.le_of_ble_eq_true rfl) (w_X12_behindTest_0 S out h)
noncomputable def f_X12_readExpression_76 (S : St) : Option (St) := (f_X12_settle (1 : Int32) S).bind fun q78 => some q78
noncomputable def f_X12_readExpression_72 (k20 : Int32 → Int32 → St → Option (St)) (x1 : Int32) (s0 : Int32) (S : St) : Option (St) := k20 x1 s0 S
noncomputable def f_X12_readExpression_20 : Nat → Int32 → Int32 → St → Option (St)
  | 0, _, _, _ => none
  | n + 1, x1, x2, S => if (gI S 41) = 0 then if x2 = (4 : Int32) then f_X12_readExpression_76 S else if x2 = 0 then (f_X12_readPlain S).bind fun q37 => f_X12_readExpression_72 (f_X12_readExpression_20 n) x1 q37.1 q37.2 else if x2 = (1 : Int32) then (f_X12_readPart S).bind fun q49 => f_X12_readExpression_72 (f_X12_readExpression_20 n) x1 q49.1 q49.2 else if x2 = (3 : Int32) then (f_X12_behindSum x1 S).bind fun q62 => f_X12_readExpression_72 (f_X12_readExpression_20 n) x1 q62.1 q62.2 else (f_X12_behindTest S).bind fun q69 => f_X12_readExpression_72 (f_X12_readExpression_20 n) x1 q69.1 q69.2 else f_X12_readExpression_76 S
noncomputable def f_X12_readExpression_19 (x1 : Int32) (s0 : Int32) (S : St) : Option (St) := f_X12_readExpression_20 FU x1 s0 S
noncomputable def f_X12_readExpression (x1 : Int32) (S : St) : Option (St) := k_let (sI S 45 (0 : Int32)) fun S1 => k_let (sI S1 46 (0 : Int32)) fun S2 => if x1 = 0 then f_X12_readExpression_19 x1 (1 : Int32) S2 else f_X12_readExpression_19 x1 (0 : Int32) S2
set_option maxRecDepth 100000 in
set_option maxHeartbeats 4000000 in
theorem w_X12_readExpression_76 {D : k_D} {dy : Nat → Nat} (S : St) (out : St) (h : f_X12_readExpression_76 S = some out) : Rn yX12_readExpression cX12_readExpression 3 none (k_rm 6) 0 0 D dy S (k_Pv dy out) 76 [(0, .ref (D.2.2 51))] [] := by
    unfold f_X12_readExpression_76 at h
    refine r_aload_n 0 dX12_readExpression_76 rfl rfl ?_
    refine r_iconst (v := 1) dX12_readExpression_77 rfl ?_
    obtain ⟨q78, hq78, h⟩ := g_bind h
    refine r_callVv [.int (1 : Int32)] [] q78 (ok_X12_settle hq78) q_1689 q_1691 q_119 q_1692 q_153 hd_X12_settle (ce_51 D dy _) kc12.1 rfl ⟨Nat.le_of_ble_eq_true rfl, Nat.le_of_ble_eq_true rfl⟩ rfl rfl (Nat.le_of_ble_eq_true rfl) dX12_readExpression_78 ?_
    exact r_vret rfl dX12_readExpression_81 ⟨rfl, rfl, Option.some.inj h⟩
set_option maxRecDepth 100000 in
set_option maxHeartbeats 4000000 in
theorem w_X12_readExpression_72 {D : k_D} {dy : Nat → Nat} {k20 : Int32 → Int32 → St → Option (St)} (hk20 : ∀ (x1 : Int32) (x2 : Int32) (S : St) (out : St), k20 x1 x2 S = some out → Rn yX12_readExpression cX12_readExpression 3 none (k_rm 6) 0 0 D dy S (k_Pv dy out) 20 [(0, .ref (D.2.2 51)), (1, .int x1), (2, .int x2)] []) (x1 : Int32) (s0 : Int32) (S : St) (out : St) (h : f_X12_readExpression_72 k20 x1 s0 S = some out) : Rn yX12_readExpression cX12_readExpression 3 none (k_rm 6) 0 0 D dy S (k_Pv dy out) 72 [(0, .ref (D.2.2 51)), (1, .int x1)] [.int s0] := by
    unfold f_X12_readExpression_72 at h
    refine r_istore_n dX12_readExpression_72 rfl (by decide) rfl ?_
    refine r_goto (t := 20) dX12_readExpression_73 (by decide) ?_
    refine r_sub [1, 2, 0] rfl ?_
    exact hk20 _ _ _ _ h
set_option maxRecDepth 100000 in
set_option maxHeartbeats 4000000 in
theorem w_X12_readExpression_20 {D : k_D} {dy : Nat → Nat} : ∀ (n : Nat) (x1 : Int32) (x2 : Int32) (S : St) (out : St), f_X12_readExpression_20 n x1 x2 S = some out → Rn yX12_readExpression cX12_readExpression 3 none (k_rm 6) 0 0 D dy S (k_Pv dy out) 20 [(0, .ref (D.2.2 51)), (1, .int x1), (2, .int x2)] [] := by
  intro n
  induction n with
  | zero => intro x1 x2 S out h; cases h
  | succ n ih =>
    intro x1 x2 S out h
    rw [f_X12_readExpression_20] at h
    refine r_aload_n 0 dX12_readExpression_20 rfl rfl ?_
    refine gf_51_14 q_1325 dX12_readExpression_21 ?_
    refine r_if_ne (t := 76) dX12_readExpression_24 (by decide) (fun c => ?_) (fun c => ?_)
    · rw [if_neg c] at h
      refine r_sub [0] rfl ?_
      exact w_X12_readExpression_76 _ _ h
    · rw [if_pos c] at h
      refine r_iload_n 2 dX12_readExpression_27 rfl rfl ?_
      refine r_iconst (v := 4) dX12_readExpression_28 rfl ?_
      refine r_icmp_eq (t := 76) dX12_readExpression_29 (by decide) (fun c => ?_) (fun c => ?_)
      · rw [if_pos c] at h
        refine r_sub [0] rfl ?_
        exact w_X12_readExpression_76 _ _ h
      · rw [if_neg c] at h
        refine r_iload_n 2 dX12_readExpression_32 rfl rfl ?_
        refine r_if_ne (t := 43) dX12_readExpression_33 (by decide) (fun c => ?_) (fun c => ?_)
        · rw [if_neg c] at h
          refine r_iload_n 2 dX12_readExpression_43 rfl rfl ?_
          refine r_iconst (v := 1) dX12_readExpression_44 rfl ?_
          refine r_icmp_ne (t := 55) dX12_readExpression_45 (by decide) (fun c => ?_) (fun c => ?_)
          · rw [if_neg c] at h
            refine r_iload_n 2 dX12_readExpression_55 rfl rfl ?_
            refine r_iconst (v := 3) dX12_readExpression_56 rfl ?_
            refine r_icmp_ne (t := 68) dX12_readExpression_57 (by decide) (fun c => ?_) (fun c => ?_)
            · rw [if_neg c] at h
              refine r_aload_n 0 dX12_readExpression_68 rfl rfl ?_
              obtain ⟨q69, hq69, h⟩ := g_bind h
              refine r_callVi [] [] q69 (ok_X12_behindTest hq69) q_1705 q_1707 q_122 q_1708 q_153 hd_X12_behindTest (ce_51 D dy _) kc12.1 rfl ⟨Nat.le_of_ble_eq_true rfl, Nat.le_of_ble_eq_true rfl⟩ rfl rfl (Nat.le_of_ble_eq_true rfl) dX12_readExpression_69 ?_
              refine r_sub [0, 1] rfl ?_
              exact w_X12_readExpression_72 ih _ _ _ _ h
            · rw [if_pos c] at h
              refine r_aload_n 0 dX12_readExpression_60 rfl rfl ?_
              refine r_iload_n 1 dX12_readExpression_61 rfl rfl ?_
              obtain ⟨q62, hq62, h⟩ := g_bind h
              refine r_callVi [.int x1] [] q62 (ok_X12_behindSum hq62) q_1682 q_1684 q_118 q_1685 q_153 hd_X12_behindSum (ce_51 D dy _) kc12.1 rfl ⟨Nat.le_of_ble_eq_true rfl, Nat.le_of_ble_eq_true rfl⟩ rfl rfl (Nat.le_of_ble_eq_true rfl) dX12_readExpression_62 ?_
              refine r_goto (t := 72) dX12_readExpression_65 (by decide) ?_
              refine r_sub [0, 1] rfl ?_
              exact w_X12_readExpression_72 ih _ _ _ _ h
          · rw [if_pos c] at h
            refine r_aload_n 0 dX12_readExpression_48 rfl rfl ?_
            obtain ⟨q49, hq49, h⟩ := g_bind h
            refine r_callVi [] [] q49 (ok_X12_readPart hq49) q_1665 q_1667 q_114 q_1668 q_153 hd_X12_readPart (ce_51 D dy _) kc12.1 rfl ⟨Nat.le_of_ble_eq_true rfl, Nat.le_of_ble_eq_true rfl⟩ rfl rfl (Nat.le_of_ble_eq_true rfl) dX12_readExpression_49 ?_
            refine r_goto (t := 72) dX12_readExpression_52 (by decide) ?_
            refine r_sub [0, 1] rfl ?_
            exact w_X12_readExpression_72 ih _ _ _ _ h
        · rw [if_pos c] at h
          refine r_aload_n 0 dX12_readExpression_36 rfl rfl ?_
          obtain ⟨q37, hq37, h⟩ := g_bind h
          refine r_callVi [] [] q37 (ok_X12_readPlain hq37) q_1648 q_1650 q_110 q_1651 q_153 hd_X12_readPlain (ce_51 D dy _) kc12.1 rfl ⟨Nat.le_of_ble_eq_true rfl, Nat.le_of_ble_eq_true rfl⟩ rfl rfl (Nat.le_of_ble_eq_true rfl) dX12_readExpression_37 ?_
          refine r_goto (t := 72) dX12_readExpression_40 (by decide) ?_
          refine r_sub [0, 1] rfl ?_
          exact w_X12_readExpression_72 ih _ _ _ _ h
set_option maxRecDepth 100000 in
set_option maxHeartbeats 4000000 in
theorem w_X12_readExpression_19 {D : k_D} {dy : Nat → Nat} (x1 : Int32) (s0 : Int32) (S : St) (out : St) (h : f_X12_readExpression_19 x1 s0 S = some out) : Rn yX12_readExpression cX12_readExpression 3 none (k_rm 6) 0 0 D dy S (k_Pv dy out) 19 [(0, .ref (D.2.2 51)), (1, .int x1)] [.int s0] := by
    unfold f_X12_readExpression_19 at h
    refine r_istore_n dX12_readExpression_19 rfl (by decide) rfl ?_
    refine r_sub [1, 2, 0] rfl ?_
    exact w_X12_readExpression_20 _ _ _ _ _ h
set_option maxRecDepth 100000 in
set_option maxHeartbeats 4000000 in
theorem w_X12_readExpression_0 {D : k_D} {dy : Nat → Nat} (x1 : Int32) (S : St) (out : St) (h : f_X12_readExpression x1 S = some out) : Rn yX12_readExpression cX12_readExpression 3 none (k_rm 6) 0 0 D dy S (k_Pv dy out) 0 [(0, .ref (D.2.2 51)), (1, .int x1)] [] := by
    unfold f_X12_readExpression at h
    refine r_aload_n 0 dX12_readExpression_0 rfl rfl ?_
    refine r_iconst (v := 0) dX12_readExpression_1 rfl ?_
    refine pf_51_23 q_1334 dX12_readExpression_2 ?_
    generalize sI S 45 (0 : Int32) = S1 at h ⊢
    replace h := g_let h
    refine r_aload_n 0 dX12_readExpression_5 rfl rfl ?_
    refine r_iconst (v := 0) dX12_readExpression_6 rfl ?_
    refine pf_51_24 q_1335 dX12_readExpression_7 ?_
    generalize sI S1 46 (0 : Int32) = S2 at h ⊢
    replace h := g_let h
    refine r_iload_n 1 dX12_readExpression_10 rfl rfl ?_
    refine r_if_eq (t := 18) dX12_readExpression_11 (by decide) (fun c => ?_) (fun c => ?_)
    · rw [if_pos c] at h
      refine r_iconst (v := 1) dX12_readExpression_18 rfl ?_
      exact w_X12_readExpression_19 _ _ _ _ h
    · rw [if_neg c] at h
      refine r_iconst (v := 0) dX12_readExpression_14 rfl ?_
      refine r_goto (t := 19) dX12_readExpression_15 (by decide) ?_
      exact w_X12_readExpression_19 _ _ _ _ h
theorem ok_X12_readExpression {D : k_D} {dy : Nat → Nat} {x1 : Int32} {S : St} {out : St} (h : f_X12_readExpression x1 S = some out) : Sp yX12_readExpression cX12_readExpression 3 none (k_rm 6) D dy S [.ref (D.2.2 51), .int x1] (k_Pv dy out) := Sp.of (by decide +kernel) (Nat.le_of_ble_eq_true rfl) (w_X12_readExpression_0 _ S out h)
noncomputable def f_X12_readClause_184 (x2 : Int32) (S : St) : Option (St) := if k_b (x2 + (6 : Int32)) 96 = true then k_let (sA S 57 (x2 + (6 : Int32)).toNatClampNeg (gI S 43)) fun S2 => some S2 else none
noncomputable def f_X12_readClause_134 (x2 : Int32) (S : St) : Option (St) := if k_b (x2 + (4 : Int32)) 96 = true then k_let (sA S 57 (x2 + (4 : Int32)).toNatClampNeg (gI S 43)) fun S2 => if k_b (x2 + (5 : Int32)) 96 = true then k_let (sA S2 57 (x2 + (5 : Int32)).toNatClampNeg (gI S2 43)) fun S4 => if (gI S4 41) = 0 then (f_X12_isWord (294 : Int64) S4).bind fun q169 => if q169.1 = 0 then f_X12_readClause_184 x2 q169.2 else (f_X12_next q169.2).bind fun q176 => (f_X12_readExpression (1 : Int32) q176).bind fun q181 => f_X12_readClause_184 x2 q181 else f_X12_readClause_184 x2 S4 else none else none
noncomputable def f_X12_readClause_75 : Nat → Int32 → Int32 → Int32 → St → Option (St)
  | 0, _, _, _, _ => none
  | n + 1, x1, x2, x3, S => if (8 : Int32) ≤ x3 then if k_b x2 96 = true then k_let (sA S 57 x2.toNatClampNeg x1) fun S2 => k_let (sI S2 42 ((gI S2 42) + (1 : Int32))) fun S3 => if k_b (x2 + (3 : Int32)) 96 = true then k_let (sA S3 57 (x2 + (3 : Int32)).toNatClampNeg (gI S3 43)) fun S5 => if x1 = 0 then (f_X12_readExpression (0 : Int32) S5).bind fun q131 => f_X12_readClause_134 x2 q131 else f_X12_readClause_134 x2 S5 else none else none else if k_b (x2 + x3) 96 = true then k_let (sA S 57 (x2 + x3).toNatClampNeg (0 : Int32)) fun S7 => f_X12_readClause_75 n x1 x2 (x3 + (1 : Int32)) S7 else none
noncomputable def f_X12_readClause_54 (x1 : Int32) (s1 : Int32) (S : St) : Option (St) := (f_X12_must s1 S).bind fun q54 => if (gI q54 41) = 0 then f_X12_readClause_75 FU x1 ((8 : Int32) * (gI q54 42)) (0 : Int32) q54 else some q54
noncomputable def f_X12_readClause_53 (x1 : Int32) (S : St) : Option (St) := f_X12_readClause_54 x1 (0 : Int32) S
noncomputable def f_X12_readClause_27 (k4 : Int32 → Int32 → St → Option (St)) (x2 : Int32) (s0 : Int32) (S : St) : Option (St) := k4 s0 (x2 + (1 : Int32)) S
noncomputable def f_X12_readClause_4 : Nat → Int32 → Int32 → St → Option (St)
  | 0, _, _, _ => none
  | n + 1, x1, x2, S => if (3 : Int32) ≤ x2 then if x1 = (-1 : Int32) then f_X12_readClause_53 x1 S else if (12 : Int32) ≤ (gI S 42) then f_X12_readClause_53 x1 S else f_X12_readClause_54 x1 (1 : Int32) S else if k_b x2 3 = true then (f_X12_isWord (gL S 63 x2.toNatClampNeg) S).bind fun q16 => if q16.1 = 0 then f_X12_readClause_27 (f_X12_readClause_4 n) x2 x1 q16.2 else f_X12_readClause_27 (f_X12_readClause_4 n) x2 x2 q16.2 else none
noncomputable def f_X12_readClause (S : St) : Option (St) := f_X12_readClause_4 FU (-1 : Int32) (0 : Int32) S
set_option maxRecDepth 100000 in
set_option maxHeartbeats 4000000 in
theorem w_X12_readClause_184 {D : k_D} {dy : Nat → Nat} (x2 : Int32) (S : St) (out : St) (h : f_X12_readClause_184 x2 S = some out) : Rn yX12_readClause cX12_readClause 4 none (k_rm 7) 0 0 D dy S (k_Pv dy out) 184 [(0, .ref (D.2.2 51)), (2, .int x2)] [] := by
    unfold f_X12_readClause_184 at h
    refine r_aload_n 0 dX12_readClause_184 rfl rfl ?_
    refine gf_51_16 q_1327 dX12_readClause_185 ?_
    refine r_iload_n 1 dX12_readClause_188 rfl rfl ?_
    refine r_bipush (v := 6) dX12_readClause_189 rfl ?_
    refine r_iadd dX12_readClause_191 ?_
    refine r_aload_n 0 dX12_readClause_192 rfl rfl ?_
    refine gf_51_17 q_1328 dX12_readClause_193 ?_
    obtain ⟨c1, h⟩ := g_ite h
    refine as_57 (k_b_in c1) dX12_readClause_196 ?_
    generalize sA S 57 (x2 + (6 : Int32)).toNatClampNeg (gI S 43) = S2 at h ⊢
    replace h := g_let h
    exact r_vret rfl dX12_readClause_197 ⟨rfl, rfl, Option.some.inj h⟩
set_option maxRecDepth 100000 in
set_option maxHeartbeats 4000000 in
theorem w_X12_readClause_134 {D : k_D} {dy : Nat → Nat} (x2 : Int32) (S : St) (out : St) (h : f_X12_readClause_134 x2 S = some out) : Rn yX12_readClause cX12_readClause 4 none (k_rm 7) 0 0 D dy S (k_Pv dy out) 134 [(0, .ref (D.2.2 51)), (2, .int x2)] [] := by
    unfold f_X12_readClause_134 at h
    refine r_aload_n 0 dX12_readClause_134 rfl rfl ?_
    refine gf_51_16 q_1327 dX12_readClause_135 ?_
    refine r_iload_n 1 dX12_readClause_138 rfl rfl ?_
    refine r_iconst (v := 4) dX12_readClause_139 rfl ?_
    refine r_iadd dX12_readClause_140 ?_
    refine r_aload_n 0 dX12_readClause_141 rfl rfl ?_
    refine gf_51_17 q_1328 dX12_readClause_142 ?_
    obtain ⟨c1, h⟩ := g_ite h
    refine as_57 (k_b_in c1) dX12_readClause_145 ?_
    generalize sA S 57 (x2 + (4 : Int32)).toNatClampNeg (gI S 43) = S2 at h ⊢
    replace h := g_let h
    refine r_aload_n 0 dX12_readClause_146 rfl rfl ?_
    refine gf_51_16 q_1327 dX12_readClause_147 ?_
    refine r_iload_n 1 dX12_readClause_150 rfl rfl ?_
    refine r_iconst (v := 5) dX12_readClause_151 rfl ?_
    refine r_iadd dX12_readClause_152 ?_
    refine r_aload_n 0 dX12_readClause_153 rfl rfl ?_
    refine gf_51_17 q_1328 dX12_readClause_154 ?_
    obtain ⟨c3, h⟩ := g_ite h
    refine as_57 (k_b_in c3) dX12_readClause_157 ?_
    generalize sA S2 57 (x2 + (5 : Int32)).toNatClampNeg (gI S2 43) = S4 at h ⊢
    replace h := g_let h
    refine r_aload_n 0 dX12_readClause_158 rfl rfl ?_
    refine gf_51_14 q_1325 dX12_readClause_159 ?_
    refine r_if_ne (t := 184) dX12_readClause_162 (by decide) (fun c => ?_) (fun c => ?_)
    · rw [if_neg c] at h
      exact w_X12_readClause_184 _ _ _ h
    · rw [if_pos c] at h
      refine r_aload_n 0 dX12_readClause_165 rfl rfl ?_
      refine r_ldc2 (v := 294) q_1711 dX12_readClause_166 ?_
      obtain ⟨q169, hq169, h⟩ := g_bind h
      refine r_callVi [.long (294 : Int64)] [] q169 (ok_X12_isWord hq169) q_1636 q_1638 q_107 q_1639 q_153 hd_X12_isWord (ce_51 D dy _) kc12.1 rfl ⟨Nat.le_of_ble_eq_true rfl, Nat.le_of_ble_eq_true rfl⟩ rfl rfl (Nat.le_of_ble_eq_true rfl) dX12_readClause_169 ?_
      refine r_if_eq (t := 184) dX12_readClause_172 (by decide) (fun c => ?_) (fun c => ?_)
      · rw [if_pos c] at h
        exact w_X12_readClause_184 _ _ _ h
      · rw [if_neg c] at h
        refine r_aload_n 0 dX12_readClause_175 rfl rfl ?_
        obtain ⟨q176, hq176, h⟩ := g_bind h
        refine r_callVv [] [] q176 (ok_X12_next hq176) q_1616 q_1618 q_105 q_1619 q_153 hd_X12_next (ce_51 D dy _) kc12.1 rfl ⟨Nat.le_of_ble_eq_true rfl, Nat.le_of_ble_eq_true rfl⟩ rfl rfl (Nat.le_of_ble_eq_true rfl) dX12_readClause_176 ?_
        refine r_aload_n 0 dX12_readClause_179 rfl rfl ?_
        refine r_iconst (v := 1) dX12_readClause_180 rfl ?_
        obtain ⟨q181, hq181, h⟩ := g_bind h
        refine r_callVv [.int (1 : Int32)] [] q181 (ok_X12_readExpression hq181) q_1644 q_1646 q_109 q_1647 q_153 hd_X12_readExpression (ce_51 D dy _) kc12.1 rfl ⟨Nat.le_of_ble_eq_true rfl, Nat.le_of_ble_eq_true rfl⟩ rfl rfl (Nat.le_of_ble_eq_true rfl) dX12_readClause_181 ?_
        exact w_X12_readClause_184 _ _ _ h
set_option maxRecDepth 100000 in
set_option maxHeartbeats 4000000 in
theorem w_X12_readClause_75 {D : k_D} {dy : Nat → Nat} : ∀ (n : Nat) (x1 : Int32) (x2 : Int32) (x3 : Int32) (S : St) (out : St), f_X12_readClause_75 n x1 x2 x3 S = some out → Rn yX12_readClause cX12_readClause 4 none (k_rm 7) 0 0 D dy S (k_Pv dy out) 75 [(0, .ref (D.2.2 51)), (1, .int x1), (2, .int x2), (3, .int x3)] [] := by
  intro n
  induction n with
  | zero => intro x1 x2 x3 S out h; cases h
  | succ n ih =>
    intro x1 x2 x3 S out h
    rw [f_X12_readClause_75] at h
    refine r_iload_n 3 dX12_readClause_75 rfl rfl ?_
    refine r_bipush (v := 8) dX12_readClause_76 rfl ?_
    refine r_icmp_ge (t := 96) dX12_readClause_78 (by decide) (fun c => ?_) (fun c => ?_)
    · rw [if_pos c] at h
      refine r_aload_n 0 dX12_readClause_96 rfl rfl ?_
      refine gf_51_16 q_1327 dX12_readClause_97 ?_
      refine r_iload_n 2 dX12_readClause_100 rfl rfl ?_
      refine r_iload_n 1 dX12_readClause_101 rfl rfl ?_
      obtain ⟨c1, h⟩ := g_ite h
      refine as_57 (k_b_in c1) dX12_readClause_102 ?_
      generalize sA S 57 x2.toNatClampNeg x1 = S2 at h ⊢
      replace h := g_let h
      refine r_aload_n 0 dX12_readClause_103 rfl rfl ?_
      refine r_dup dX12_readClause_104 rfl ?_
      refine gf_51_15 q_1326 dX12_readClause_105 ?_
      refine r_iconst (v := 1) dX12_readClause_108 rfl ?_
      refine r_iadd dX12_readClause_109 ?_
      refine pf_51_15 q_1326 dX12_readClause_110 ?_
      generalize sI S2 42 ((gI S2 42) + (1 : Int32)) = S3 at h ⊢
      replace h := g_let h
      refine r_aload_n 0 dX12_readClause_113 rfl rfl ?_
      refine gf_51_16 q_1327 dX12_readClause_114 ?_
      refine r_iload_n 2 dX12_readClause_117 rfl rfl ?_
      refine r_iconst (v := 3) dX12_readClause_118 rfl ?_
      refine r_iadd dX12_readClause_119 ?_
      refine r_aload_n 0 dX12_readClause_120 rfl rfl ?_
      refine gf_51_17 q_1328 dX12_readClause_121 ?_
      obtain ⟨c4, h⟩ := g_ite h
      refine as_57 (k_b_in c4) dX12_readClause_124 ?_
      generalize sA S3 57 (x2 + (3 : Int32)).toNatClampNeg (gI S3 43) = S5 at h ⊢
      replace h := g_let h
      refine r_iload_n 1 dX12_readClause_125 rfl rfl ?_
      refine r_if_ne (t := 134) dX12_readClause_126 (by decide) (fun c => ?_) (fun c => ?_)
      · rw [if_neg c] at h
        refine r_sub [0, 2] rfl ?_
        exact w_X12_readClause_134 _ _ _ h
      · rw [if_pos c] at h
        refine r_aload_n 0 dX12_readClause_129 rfl rfl ?_
        refine r_iconst (v := 0) dX12_readClause_130 rfl ?_
        obtain ⟨q131, hq131, h⟩ := g_bind h
        refine r_callVv [.int (0 : Int32)] [] q131 (ok_X12_readExpression hq131) q_1644 q_1646 q_109 q_1647 q_153 hd_X12_readExpression (ce_51 D dy _) kc12.1 rfl ⟨Nat.le_of_ble_eq_true rfl, Nat.le_of_ble_eq_true rfl⟩ rfl rfl (Nat.le_of_ble_eq_true rfl) dX12_readClause_131 ?_
        refine r_sub [0, 2] rfl ?_
        exact w_X12_readClause_134 _ _ _ h
    · rw [if_neg c] at h
      refine r_aload_n 0 dX12_readClause_81 rfl rfl ?_
      refine gf_51_16 q_1327 dX12_readClause_82 ?_
      refine r_iload_n 2 dX12_readClause_85 rfl rfl ?_
      refine r_iload_n 3 dX12_readClause_86 rfl rfl ?_
      refine r_iadd dX12_readClause_87 ?_
      refine r_iconst (v := 0) dX12_readClause_88 rfl ?_
      obtain ⟨c6, h⟩ := g_ite h
      refine as_57 (k_b_in c6) dX12_readClause_89 ?_
      generalize sA S 57 (x2 + x3).toNatClampNeg (0 : Int32) = S7 at h ⊢
      replace h := g_let h
      refine r_iinc (q := 3) (v := x3 + (1 : Int32)) dX12_readClause_90 rfl rfl (by decide) rfl ?_
      refine r_goto (t := 75) dX12_readClause_93 (by decide) ?_
      refine r_sub [1, 2, 3, 0] rfl ?_
      exact ih _ _ _ _ _ h
set_option maxRecDepth 100000 in
set_option maxHeartbeats 4000000 in
theorem w_X12_readClause_54 {D : k_D} {dy : Nat → Nat} (x1 : Int32) (s1 : Int32) (S : St) (out : St) (h : f_X12_readClause_54 x1 s1 S = some out) : Rn yX12_readClause cX12_readClause 4 none (k_rm 7) 0 0 D dy S (k_Pv dy out) 54 [(0, .ref (D.2.2 51)), (1, .int x1)] [.int s1, .ref (D.2.2 51)] := by
    unfold f_X12_readClause_54 at h
    obtain ⟨q54, hq54, h⟩ := g_bind h
    refine r_callVv [.int s1] [] q54 (ok_X12_must hq54) q_1640 q_1642 q_108 q_1643 q_153 hd_X12_must (ce_51 D dy _) kc12.1 rfl ⟨Nat.le_of_ble_eq_true rfl, Nat.le_of_ble_eq_true rfl⟩ rfl rfl (Nat.le_of_ble_eq_true rfl) dX12_readClause_54 ?_
    refine r_aload_n 0 dX12_readClause_57 rfl rfl ?_
    refine gf_51_14 q_1325 dX12_readClause_58 ?_
    refine r_if_eq (t := 65) dX12_readClause_61 (by decide) (fun c => ?_) (fun c => ?_)
    · rw [if_pos c] at h
      refine r_bipush (v := 8) dX12_readClause_65 rfl ?_
      refine r_aload_n 0 dX12_readClause_67 rfl rfl ?_
      refine gf_51_15 q_1326 dX12_readClause_68 ?_
      refine r_imul dX12_readClause_71 ?_
      refine r_istore_n dX12_readClause_72 rfl (by decide) rfl ?_
      refine r_iconst (v := 0) dX12_readClause_73 rfl ?_
      refine r_istore_n dX12_readClause_74 rfl (by decide) rfl ?_
      refine r_sub [2, 3, 1, 0] rfl ?_
      exact w_X12_readClause_75 _ _ _ _ _ _ h
    · rw [if_neg c] at h
      exact r_vret rfl dX12_readClause_64 ⟨rfl, rfl, Option.some.inj h⟩
set_option maxRecDepth 100000 in
set_option maxHeartbeats 4000000 in
theorem w_X12_readClause_53 {D : k_D} {dy : Nat → Nat} (x1 : Int32) (S : St) (out : St) (h : f_X12_readClause_53 x1 S = some out) : Rn yX12_readClause cX12_readClause 4 none (k_rm 7) 0 0 D dy S (k_Pv dy out) 53 [(0, .ref (D.2.2 51)), (1, .int x1)] [.ref (D.2.2 51)] := by
    unfold f_X12_readClause_53 at h
    refine r_iconst (v := 0) dX12_readClause_53 rfl ?_
    exact w_X12_readClause_54 _ _ _ _ h
set_option maxRecDepth 100000 in
set_option maxHeartbeats 4000000 in
theorem w_X12_readClause_27 {D : k_D} {dy : Nat → Nat} {k4 : Int32 → Int32 → St → Option (St)} (hk4 : ∀ (x1 : Int32) (x2 : Int32) (S : St) (out : St), k4 x1 x2 S = some out → Rn yX12_readClause cX12_readClause 4 none (k_rm 7) 0 0 D dy S (k_Pv dy out) 4 [(0, .ref (D.2.2 51)), (1, .int x1), (2, .int x2)] []) (x2 : Int32) (s0 : Int32) (S : St) (out : St) (h : f_X12_readClause_27 k4 x2 s0 S = some out) : Rn yX12_readClause cX12_readClause 4 none (k_rm 7) 0 0 D dy S (k_Pv dy out) 27 [(0, .ref (D.2.2 51)), (2, .int x2)] [.int s0] := by
    unfold f_X12_readClause_27 at h
    refine r_istore_n dX12_readClause_27 rfl (by decide) rfl ?_
    refine r_iinc (q := 2) (v := x2 + (1 : Int32)) dX12_readClause_28 rfl rfl (by decide) rfl ?_
    refine r_goto (t := 4) dX12_readClause_31 (by decide) ?_
    refine r_sub [2, 1, 0] rfl ?_
    exact hk4 _ _ _ _ h
set_option maxRecDepth 100000 in
set_option maxHeartbeats 4000000 in
theorem w_X12_readClause_4 {D : k_D} {dy : Nat → Nat} : ∀ (n : Nat) (x1 : Int32) (x2 : Int32) (S : St) (out : St), f_X12_readClause_4 n x1 x2 S = some out → Rn yX12_readClause cX12_readClause 4 none (k_rm 7) 0 0 D dy S (k_Pv dy out) 4 [(0, .ref (D.2.2 51)), (1, .int x1), (2, .int x2)] [] := by
  intro n
  induction n with
  | zero => intro x1 x2 S out h; cases h
  | succ n ih =>
    intro x1 x2 S out h
    rw [f_X12_readClause_4] at h
    refine r_iload_n 2 dX12_readClause_4 rfl rfl ?_
    refine r_iconst (v := 3) dX12_readClause_5 rfl ?_
    refine r_icmp_ge (t := 34) dX12_readClause_6 (by decide) (fun c => ?_) (fun c => ?_)
    · rw [if_pos c] at h
      refine r_aload_n 0 dX12_readClause_34 rfl rfl ?_
      refine r_iload_n 1 dX12_readClause_35 rfl rfl ?_
      refine r_iconst (v := -1) dX12_readClause_36 rfl ?_
      refine r_icmp_eq (t := 53) dX12_readClause_37 (by decide) (fun c => ?_) (fun c => ?_)
      · rw [if_pos c] at h
        refine r_sub [0, 1] rfl ?_
        exact w_X12_readClause_53 _ _ _ h
      · rw [if_neg c] at h
        refine r_aload_n 0 dX12_readClause_40 rfl rfl ?_
        refine gf_51_15 q_1326 dX12_readClause_41 ?_
        refine r_bipush (v := 12) dX12_readClause_44 rfl ?_
        refine r_icmp_ge (t := 53) dX12_readClause_46 (by decide) (fun c => ?_) (fun c => ?_)
        · rw [if_pos c] at h
          refine r_sub [0, 1] rfl ?_
          exact w_X12_readClause_53 _ _ _ h
        · rw [if_neg c] at h
          refine r_iconst (v := 1) dX12_readClause_49 rfl ?_
          refine r_goto (t := 54) dX12_readClause_50 (by decide) ?_
          refine r_sub [0, 1] rfl ?_
          exact w_X12_readClause_54 _ _ _ _ h
    · rw [if_neg c] at h
      refine r_aload_n 0 dX12_readClause_9 rfl rfl ?_
      refine r_aload_n 0 dX12_readClause_10 rfl rfl ?_
      refine gf_51_26 q_1337 dX12_readClause_11 ?_
      refine r_iload_n 2 dX12_readClause_14 rfl rfl ?_
      obtain ⟨c1, h⟩ := g_ite h
      refine al_63 (k_b_in c1) dX12_readClause_15 ?_
      obtain ⟨q16, hq16, h⟩ := g_bind h
      refine r_callVi [.long (gL S 63 x2.toNatClampNeg)] [] q16 (ok_X12_isWord hq16) q_1636 q_1638 q_107 q_1639 q_153 hd_X12_isWord (ce_51 D dy _) kc12.1 rfl ⟨Nat.le_of_ble_eq_true rfl, Nat.le_of_ble_eq_true rfl⟩ rfl rfl (Nat.le_of_ble_eq_true rfl) dX12_readClause_16 ?_
      refine r_if_eq (t := 26) dX12_readClause_19 (by decide) (fun c => ?_) (fun c => ?_)
      · rw [if_pos c] at h
        refine r_iload_n 1 dX12_readClause_26 rfl rfl ?_
        refine r_sub [0, 2] rfl ?_
        exact w_X12_readClause_27 ih _ _ _ _ h
      · rw [if_neg c] at h
        refine r_iload_n 2 dX12_readClause_22 rfl rfl ?_
        refine r_goto (t := 27) dX12_readClause_23 (by decide) ?_
        refine r_sub [0, 2] rfl ?_
        exact w_X12_readClause_27 ih _ _ _ _ h
set_option maxRecDepth 100000 in
set_option maxHeartbeats 4000000 in
theorem w_X12_readClause_0 {D : k_D} {dy : Nat → Nat} (S : St) (out : St) (h : f_X12_readClause S = some out) : Rn yX12_readClause cX12_readClause 4 none (k_rm 7) 0 0 D dy S (k_Pv dy out) 0 [(0, .ref (D.2.2 51))] [] := by
    unfold f_X12_readClause at h
    refine r_iconst (v := -1) dX12_readClause_0 rfl ?_
    refine r_istore_n dX12_readClause_1 rfl (by decide) rfl ?_
    refine r_iconst (v := 0) dX12_readClause_2 rfl ?_
    refine r_istore_n dX12_readClause_3 rfl (by decide) rfl ?_
    refine r_sub [2, 1, 0] rfl ?_
    exact w_X12_readClause_4 _ _ _ _ _ h
theorem ok_X12_readClause {D : k_D} {dy : Nat → Nat} {S : St} {out : St} (h : f_X12_readClause S = some out) : Sp yX12_readClause cX12_readClause 4 none (k_rm 7) D dy S [.ref (D.2.2 51)] (k_Pv dy out) := Sp.of (by decide +kernel) (Nat.le_of_ble_eq_true rfl) (w_X12_readClause_0 S out h)
