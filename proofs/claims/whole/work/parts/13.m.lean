noncomputable def f_X5_endingWith_10 (S : St) : Option (Int32 × St) := some ((0 : Int32), S)
noncomputable def f_X5_endingWith_43 (S : St) : Option (Int32 × St) := some ((0 : Int32), S)
noncomputable def f_X5_endingWith_68 (s0 : Int32) (S : St) : Option (Int32 × St) := some (s0, S)
noncomputable def f_X5_endingWith_67 (S : St) : Option (Int32 × St) := f_X5_endingWith_68 (0 : Int32) S
noncomputable def f_X5_endingWith (x1 : Int32) (x2 : Int32) (S : St) : Option (Int32 × St) := if x1 < 0 then f_X5_endingWith_10 S else if x1 < (10 : Int32) then if (x2 &&& (((1 : Int32) <<< (x1 &&& 31)) ^^^ (-1 : Int32))) = x2 then f_X5_endingWith_43 S else if k_b x1 10 = true then if (((gA S 42 x1.toNatClampNeg) &&& (gI S 27)) &&& ((x2 &&& (((1 : Int32) <<< (x1 &&& 31)) ^^^ (-1 : Int32))) ^^^ (-1 : Int32))) = 0 then if (x2 &&& (((1 : Int32) <<< (x1 &&& 31)) ^^^ (-1 : Int32))) < 0 then f_X5_endingWith_67 S else if (1024 : Int32) ≤ (x2 &&& (((1 : Int32) <<< (x1 &&& 31)) ^^^ (-1 : Int32))) then f_X5_endingWith_67 S else if k_b (x2 &&& (((1 : Int32) <<< (x1 &&& 31)) ^^^ (-1 : Int32))) 1024 = true then f_X5_endingWith_68 (gA S 43 (x2 &&& (((1 : Int32) <<< (x1 &&& 31)) ^^^ (-1 : Int32))).toNatClampNeg) S else none else f_X5_endingWith_43 S else none else f_X5_endingWith_10 S
set_option maxRecDepth 100000 in
set_option maxHeartbeats 4000000 in
theorem w_X5_endingWith_10 {D : k_D} {dy : Nat → Nat} (S : St) (out : Int32 × St) (h : f_X5_endingWith_10 S = some out) : Rn yX5_endingWith cX5_endingWith 4 (some .int) (k_rm 0) 0 0 D dy S (k_Pi dy out) 10 [] [] := by
    unfold f_X5_endingWith_10 at h
    refine r_iconst (v := 0) dX5_endingWith_10 rfl ?_
    cases h
    exact r_iret rfl dX5_endingWith_11 ⟨rfl, rfl, rfl⟩
set_option maxRecDepth 100000 in
set_option maxHeartbeats 4000000 in
theorem w_X5_endingWith_43 {D : k_D} {dy : Nat → Nat} (S : St) (out : Int32 × St) (h : f_X5_endingWith_43 S = some out) : Rn yX5_endingWith cX5_endingWith 4 (some .int) (k_rm 0) 0 0 D dy S (k_Pi dy out) 43 [] [] := by
    unfold f_X5_endingWith_43 at h
    refine r_iconst (v := 0) dX5_endingWith_43 rfl ?_
    cases h
    exact r_iret rfl dX5_endingWith_44 ⟨rfl, rfl, rfl⟩
set_option maxRecDepth 100000 in
set_option maxHeartbeats 4000000 in
theorem w_X5_endingWith_68 {D : k_D} {dy : Nat → Nat} (s0 : Int32) (S : St) (out : Int32 × St) (h : f_X5_endingWith_68 s0 S = some out) : Rn yX5_endingWith cX5_endingWith 4 (some .int) (k_rm 0) 0 0 D dy S (k_Pi dy out) 68 [] [.int s0] := by
    unfold f_X5_endingWith_68 at h
    cases h
    exact r_iret rfl dX5_endingWith_68 ⟨rfl, rfl, rfl⟩
set_option maxRecDepth 100000 in
set_option maxHeartbeats 4000000 in
theorem w_X5_endingWith_67 {D : k_D} {dy : Nat → Nat} (S : St) (out : Int32 × St) (h : f_X5_endingWith_67 S = some out) : Rn yX5_endingWith cX5_endingWith 4 (some .int) (k_rm 0) 0 0 D dy S (k_Pi dy out) 67 [] [] := by
    unfold f_X5_endingWith_67 at h
    refine r_iconst (v := 0) dX5_endingWith_67 rfl ?_
    exact w_X5_endingWith_68 _ _ _ h
set_option maxRecDepth 100000 in
set_option maxHeartbeats 4000000 in
theorem w_X5_endingWith_0 {D : k_D} {dy : Nat → Nat} (x1 : Int32) (x2 : Int32) (S : St) (out : Int32 × St) (h : f_X5_endingWith x1 x2 S = some out) : Rn yX5_endingWith cX5_endingWith 4 (some .int) (k_rm 0) 0 0 D dy S (k_Pi dy out) 0 [(0, .ref (D.2.2 41)), (1, .int x1), (2, .int x2)] [] := by
    unfold f_X5_endingWith at h
    refine r_iload_n 1 dX5_endingWith_0 rfl rfl ?_
    refine r_if_lt (t := 10) dX5_endingWith_1 (by decide) (fun c => ?_) (fun c => ?_)
    · rw [if_pos c] at h
      refine r_sub [] rfl ?_
      exact w_X5_endingWith_10 _ _ h
    · rw [if_neg c] at h
      refine r_iload_n 1 dX5_endingWith_4 rfl rfl ?_
      refine r_bipush (v := 10) dX5_endingWith_5 rfl ?_
      refine r_icmp_lt (t := 12) dX5_endingWith_7 (by decide) (fun c => ?_) (fun c => ?_)
      · rw [if_pos c] at h
        refine r_iload_n 2 dX5_endingWith_12 rfl rfl ?_
        refine r_iconst (v := 1) dX5_endingWith_13 rfl ?_
        refine r_iload_n 1 dX5_endingWith_14 rfl rfl ?_
        refine r_ishl dX5_endingWith_15 ?_
        refine r_iconst (v := -1) dX5_endingWith_16 rfl ?_
        refine r_ixor dX5_endingWith_17 ?_
        refine r_iand dX5_endingWith_18 ?_
        refine r_istore_n dX5_endingWith_19 rfl (by decide) rfl ?_
        refine r_iload_n 0 dX5_endingWith_20 rfl rfl ?_
        refine r_iload_n 3 dX5_endingWith_21 rfl rfl ?_
        refine r_icmp_eq (t := 43) dX5_endingWith_22 (by decide) (fun c => ?_) (fun c => ?_)
        · rw [if_pos c] at h
          refine r_sub [] rfl ?_
          exact w_X5_endingWith_43 _ _ h
        · rw [if_neg c] at h
          refine r_aload_n 1 dX5_endingWith_25 rfl rfl ?_
          refine gf_41_1 q_547 dX5_endingWith_26 ?_
          refine r_iload_n 2 dX5_endingWith_29 rfl rfl ?_
          obtain ⟨c1, h⟩ := g_ite h
          refine al_42 (k_b_in c1) dX5_endingWith_30 ?_
          refine r_aload_n 1 dX5_endingWith_31 rfl rfl ?_
          refine gf_41_3 q_549 dX5_endingWith_32 ?_
          refine r_iand dX5_endingWith_35 ?_
          refine r_iload_n 0 dX5_endingWith_36 rfl rfl ?_
          refine r_iconst (v := -1) dX5_endingWith_37 rfl ?_
          refine r_ixor dX5_endingWith_38 ?_
          refine r_iand dX5_endingWith_39 ?_
          refine r_if_eq (t := 45) dX5_endingWith_40 (by decide) (fun c => ?_) (fun c => ?_)
          · rw [if_pos c] at h
            refine r_iload_n 0 dX5_endingWith_45 rfl rfl ?_
            refine r_if_lt (t := 67) dX5_endingWith_46 (by decide) (fun c => ?_) (fun c => ?_)
            · rw [if_pos c] at h
              refine r_sub [] rfl ?_
              exact w_X5_endingWith_67 _ _ h
            · rw [if_neg c] at h
              refine r_iload_n 0 dX5_endingWith_49 rfl rfl ?_
              refine r_aload_n 1 dX5_endingWith_50 rfl rfl ?_
              refine gf_41_2 q_548 dX5_endingWith_51 ?_
              refine ln_43 dX5_endingWith_54 ?_
              refine r_icmp_ge (t := 67) dX5_endingWith_55 (by decide) (fun c => ?_) (fun c => ?_)
              · rw [if_pos c] at h
                refine r_sub [] rfl ?_
                exact w_X5_endingWith_67 _ _ h
              · rw [if_neg c] at h
                refine r_aload_n 1 dX5_endingWith_58 rfl rfl ?_
                refine gf_41_2 q_548 dX5_endingWith_59 ?_
                refine r_iload_n 0 dX5_endingWith_62 rfl rfl ?_
                obtain ⟨c2, h⟩ := g_ite h
                refine al_43 (k_b_in c2) dX5_endingWith_63 ?_
                refine r_goto (t := 68) dX5_endingWith_64 (by decide) ?_
                refine r_sub [] rfl ?_
                exact w_X5_endingWith_68 _ _ _ h
          · rw [if_neg c] at h
            refine r_sub [] rfl ?_
            exact w_X5_endingWith_43 _ _ h
      · rw [if_neg c] at h
        refine r_sub [] rfl ?_
        exact w_X5_endingWith_10 _ _ h
theorem ok_X5_endingWith {D : k_D} {dy : Nat → Nat} {x1 : Int32} {x2 : Int32} {S : St} {out : Int32 × St} (h : f_X5_endingWith x1 x2 S = some out) : Sp yX5_endingWith cX5_endingWith 4 (some .int) (k_rm 0) D dy S [.ref (D.2.2 41), .int x1, .int x2] (k_Pi dy out) := Sp.of (by decide +kernel) (Nat.le_of_ble_eq_true rfl) (w_X5_endingWith_0 _ _ S out h)
noncomputable def f_X5_waysOf_4 : Nat → Int32 → Int32 → Int32 → St → Option (Int32 × St)
  | 0, _, _, _, _ => none
  | n + 1, x1, x2, x3, S => if (10 : Int32) ≤ x3 then some (x2, S) else (f_X5_endingWith x3 x1 S).bind fun q14 => f_X5_waysOf_4 n x1 (x2 + q14.1) (x3 + (1 : Int32)) q14.2
noncomputable def f_X5_waysOf (x1 : Int32) (S : St) : Option (Int32 × St) := f_X5_waysOf_4 FU x1 (0 : Int32) (0 : Int32) S
set_option maxRecDepth 100000 in
set_option maxHeartbeats 4000000 in
theorem w_X5_waysOf_4 {D : k_D} {dy : Nat → Nat} : ∀ (n : Nat) (x1 : Int32) (x2 : Int32) (x3 : Int32) (S : St) (out : Int32 × St), f_X5_waysOf_4 n x1 x2 x3 S = some out → Rn yX5_waysOf cX5_waysOf 4 (some .int) (k_rm 1) 0 0 D dy S (k_Pi dy out) 4 [(0, .ref (D.2.2 41)), (1, .int x1), (2, .int x2), (3, .int x3)] [] := by
  intro n
  induction n with
  | zero => intro x1 x2 x3 S out h; cases h
  | succ n ih =>
    intro x1 x2 x3 S out h
    rw [f_X5_waysOf_4] at h
    refine r_iload_n 3 dX5_waysOf_4 rfl rfl ?_
    refine r_bipush (v := 10) dX5_waysOf_5 rfl ?_
    refine r_icmp_ge (t := 25) dX5_waysOf_7 (by decide) (fun c => ?_) (fun c => ?_)
    · rw [if_pos c] at h
      refine r_iload_n 2 dX5_waysOf_25 rfl rfl ?_
      cases h
      exact r_iret rfl dX5_waysOf_26 ⟨rfl, rfl, rfl⟩
    · rw [if_neg c] at h
      refine r_iload_n 2 dX5_waysOf_10 rfl rfl ?_
      refine r_aload_n 0 dX5_waysOf_11 rfl rfl ?_
      refine r_iload_n 3 dX5_waysOf_12 rfl rfl ?_
      refine r_iload_n 1 dX5_waysOf_13 rfl rfl ?_
      obtain ⟨q14, hq14, h⟩ := g_bind h
      refine r_callVi [.int x3, .int x1] [.int x2] q14 (ok_X5_endingWith hq14) q_1215 q_1217 q_78 q_1218 q_151 hd_X5_endingWith (ce_41 D dy _) kc5.1 rfl ⟨Nat.le_of_ble_eq_true rfl, Nat.le_of_ble_eq_true rfl⟩ rfl rfl (Nat.le_of_ble_eq_true rfl) dX5_waysOf_14 ?_
      refine r_iadd dX5_waysOf_17 ?_
      refine r_istore_n dX5_waysOf_18 rfl (by decide) rfl ?_
      refine r_iinc (q := 3) (v := x3 + (1 : Int32)) dX5_waysOf_19 rfl rfl (by decide) rfl ?_
      refine r_goto (t := 4) dX5_waysOf_22 (by decide) ?_
      refine r_sub [2, 3, 1, 0] rfl ?_
      exact ih _ _ _ _ _ h
set_option maxRecDepth 100000 in
set_option maxHeartbeats 4000000 in
theorem w_X5_waysOf_0 {D : k_D} {dy : Nat → Nat} (x1 : Int32) (S : St) (out : Int32 × St) (h : f_X5_waysOf x1 S = some out) : Rn yX5_waysOf cX5_waysOf 4 (some .int) (k_rm 1) 0 0 D dy S (k_Pi dy out) 0 [(0, .ref (D.2.2 41)), (1, .int x1)] [] := by
    unfold f_X5_waysOf at h
    refine r_iconst (v := 0) dX5_waysOf_0 rfl ?_
    refine r_istore_n dX5_waysOf_1 rfl (by decide) rfl ?_
    refine r_iconst (v := 0) dX5_waysOf_2 rfl ?_
    refine r_istore_n dX5_waysOf_3 rfl (by decide) rfl ?_
    refine r_sub [2, 3, 1, 0] rfl ?_
    exact w_X5_waysOf_4 _ _ _ _ _ _ h
theorem ok_X5_waysOf {D : k_D} {dy : Nat → Nat} {x1 : Int32} {S : St} {out : Int32 × St} (h : f_X5_waysOf x1 S = some out) : Sp yX5_waysOf cX5_waysOf 4 (some .int) (k_rm 1) D dy S [.ref (D.2.2 41), .int x1] (k_Pi dy out) := Sp.of (by decide +kernel) (Nat.le_of_ble_eq_true rfl) (w_X5_waysOf_0 _ S out h)
noncomputable def f_X5_find_112 (S : St) : Option (St) := some S
noncomputable def f_X5_find_106 (k68 : Int32 → St → Option (St)) (x2 : Int32) (S : St) : Option (St) := k68 (x2 + (1 : Int32)) S
noncomputable def f_X5_find_68 : Nat → Int32 → St → Option (St)
  | 0, _, _ => none
  | n + 1, x2, S => if (gI S 27) < x2 then f_X5_find_112 S else if (1024 : Int32) ≤ x2 then f_X5_find_112 S else if (x2 &&& (gI S 27)) = x2 then (f_X5_waysOf x2 S).bind fun q102 => if k_b x2 1024 = true then k_let (sA q102.2 43 x2.toNatClampNeg q102.1) fun S2 => f_X5_find_106 (f_X5_find_68 n) x2 S2 else none else f_X5_find_106 (f_X5_find_68 n) x2 S
noncomputable def f_X5_find_59 (S : St) : Option (St) := if k_b (0 : Int32) 1024 = true then k_let (sA S 43 (0 : Int32).toNatClampNeg (1 : Int32)) fun S2 => f_X5_find_68 FU (1 : Int32) S2 else none
noncomputable def f_X5_find_53 (k11 : Int32 → Int32 → St → Option (St)) (x1 : Int32) (x2 : Int32) (S : St) : Option (St) := k11 x1 (x2 + (1 : Int32)) S
noncomputable def f_X5_find_11 : Nat → Int32 → Int32 → St → Option (St)
  | 0, _, _, _ => none
  | n + 1, x1, x2, S => if (gI S 6) ≤ x2 then f_X5_find_59 S else if (10 : Int32) ≤ x2 then f_X5_find_59 S else if k_b x2 10 = true then if (gA S 12 x2.toNatClampNeg) = x1 then k_let (sI S 27 ((gI S 27) ||| ((1 : Int32) <<< (x2 &&& 31)))) fun S2 => f_X5_find_53 (f_X5_find_11 n) x1 x2 S2 else f_X5_find_53 (f_X5_find_11 n) x1 x2 S else none
noncomputable def f_X5_find (x1 : Int32) (S : St) : Option (St) := (f_X5_followAhead S).bind fun q1 => k_let (sI q1 27 (0 : Int32)) fun S1 => f_X5_find_11 FU x1 (0 : Int32) S1
set_option maxRecDepth 100000 in
set_option maxHeartbeats 4000000 in
theorem w_X5_find_112 {D : k_D} {dy : Nat → Nat} (S : St) (out : St) (h : f_X5_find_112 S = some out) : Rn yX5_find cX5_find 3 none (k_rm 2) 0 0 D dy S (k_Pv dy out) 112 [] [] := by
    unfold f_X5_find_112 at h
    exact r_vret rfl dX5_find_112 ⟨rfl, rfl, Option.some.inj h⟩
set_option maxRecDepth 100000 in
set_option maxHeartbeats 4000000 in
theorem w_X5_find_106 {D : k_D} {dy : Nat → Nat} {k68 : Int32 → St → Option (St)} (hk68 : ∀ (x2 : Int32) (S : St) (out : St), k68 x2 S = some out → Rn yX5_find cX5_find 3 none (k_rm 2) 0 0 D dy S (k_Pv dy out) 68 [(0, .ref (D.2.2 41)), (2, .int x2)] []) (x2 : Int32) (S : St) (out : St) (h : f_X5_find_106 k68 x2 S = some out) : Rn yX5_find cX5_find 3 none (k_rm 2) 0 0 D dy S (k_Pv dy out) 106 [(0, .ref (D.2.2 41)), (2, .int x2)] [] := by
    unfold f_X5_find_106 at h
    refine r_iinc (q := 1) (v := x2 + (1 : Int32)) dX5_find_106 rfl rfl (by decide) rfl ?_
    refine r_goto (t := 68) dX5_find_109 (by decide) ?_
    refine r_sub [1, 0] rfl ?_
    exact hk68 _ _ _ h
set_option maxRecDepth 100000 in
set_option maxHeartbeats 4000000 in
theorem w_X5_find_68 {D : k_D} {dy : Nat → Nat} : ∀ (n : Nat) (x2 : Int32) (S : St) (out : St), f_X5_find_68 n x2 S = some out → Rn yX5_find cX5_find 3 none (k_rm 2) 0 0 D dy S (k_Pv dy out) 68 [(0, .ref (D.2.2 41)), (2, .int x2)] [] := by
  intro n
  induction n with
  | zero => intro x2 S out h; cases h
  | succ n ih =>
    intro x2 S out h
    rw [f_X5_find_68] at h
    refine r_iload_n 1 dX5_find_68 rfl rfl ?_
    refine r_aload_n 0 dX5_find_69 rfl rfl ?_
    refine gf_41_3 q_549 dX5_find_70 ?_
    refine r_icmp_gt (t := 112) dX5_find_73 (by decide) (fun c => ?_) (fun c => ?_)
    · rw [if_pos c] at h
      refine r_sub [] rfl ?_
      exact w_X5_find_112 _ _ h
    · rw [if_neg c] at h
      refine r_iload_n 1 dX5_find_76 rfl rfl ?_
      refine r_aload_n 0 dX5_find_77 rfl rfl ?_
      refine gf_41_2 q_548 dX5_find_78 ?_
      refine ln_43 dX5_find_81 ?_
      refine r_icmp_ge (t := 112) dX5_find_82 (by decide) (fun c => ?_) (fun c => ?_)
      · rw [if_pos c] at h
        refine r_sub [] rfl ?_
        exact w_X5_find_112 _ _ h
      · rw [if_neg c] at h
        refine r_iload_n 1 dX5_find_85 rfl rfl ?_
        refine r_aload_n 0 dX5_find_86 rfl rfl ?_
        refine gf_41_3 q_549 dX5_find_87 ?_
        refine r_iand dX5_find_90 ?_
        refine r_iload_n 1 dX5_find_91 rfl rfl ?_
        refine r_icmp_ne (t := 106) dX5_find_92 (by decide) (fun c => ?_) (fun c => ?_)
        · rw [if_neg c] at h
          exact w_X5_find_106 ih _ _ _ h
        · rw [if_pos c] at h
          refine r_aload_n 0 dX5_find_95 rfl rfl ?_
          refine gf_41_2 q_548 dX5_find_96 ?_
          refine r_iload_n 1 dX5_find_99 rfl rfl ?_
          refine r_aload_n 0 dX5_find_100 rfl rfl ?_
          refine r_iload_n 1 dX5_find_101 rfl rfl ?_
          obtain ⟨q102, hq102, h⟩ := g_bind h
          refine r_callVi [.int x2] [.int x2, .ref (D.2.2 43)] q102 (ok_X5_waysOf hq102) q_1211 q_1213 q_77 q_1214 q_151 hd_X5_waysOf (ce_41 D dy _) kc5.1 rfl ⟨Nat.le_of_ble_eq_true rfl, Nat.le_of_ble_eq_true rfl⟩ rfl rfl (Nat.le_of_ble_eq_true rfl) dX5_find_102 ?_
          obtain ⟨c1, h⟩ := g_ite h
          refine as_43 (k_b_in c1) dX5_find_105 ?_
          generalize sA q102.2 43 x2.toNatClampNeg q102.1 = S2 at h ⊢
          replace h := g_let h
          exact w_X5_find_106 ih _ _ _ h
set_option maxRecDepth 100000 in
set_option maxHeartbeats 4000000 in
theorem w_X5_find_59 {D : k_D} {dy : Nat → Nat} (S : St) (out : St) (h : f_X5_find_59 S = some out) : Rn yX5_find cX5_find 3 none (k_rm 2) 0 0 D dy S (k_Pv dy out) 59 [(0, .ref (D.2.2 41))] [] := by
    unfold f_X5_find_59 at h
    refine r_aload_n 0 dX5_find_59 rfl rfl ?_
    refine gf_41_2 q_548 dX5_find_60 ?_
    refine r_iconst (v := 0) dX5_find_63 rfl ?_
    refine r_iconst (v := 1) dX5_find_64 rfl ?_
    obtain ⟨c1, h⟩ := g_ite h
    refine as_43 (k_b_in c1) dX5_find_65 ?_
    generalize sA S 43 (0 : Int32).toNatClampNeg (1 : Int32) = S2 at h ⊢
    replace h := g_let h
    refine r_iconst (v := 1) dX5_find_66 rfl ?_
    refine r_istore_n dX5_find_67 rfl (by decide) rfl ?_
    refine r_sub [1, 0] rfl ?_
    exact w_X5_find_68 _ _ _ _ h
set_option maxRecDepth 100000 in
set_option maxHeartbeats 4000000 in
theorem w_X5_find_53 {D : k_D} {dy : Nat → Nat} {k11 : Int32 → Int32 → St → Option (St)} (hk11 : ∀ (x1 : Int32) (x2 : Int32) (S : St) (out : St), k11 x1 x2 S = some out → Rn yX5_find cX5_find 3 none (k_rm 2) 0 0 D dy S (k_Pv dy out) 11 [(0, .ref (D.2.2 41)), (1, .int x1), (2, .int x2)] []) (x1 : Int32) (x2 : Int32) (S : St) (out : St) (h : f_X5_find_53 k11 x1 x2 S = some out) : Rn yX5_find cX5_find 3 none (k_rm 2) 0 0 D dy S (k_Pv dy out) 53 [(0, .ref (D.2.2 41)), (1, .int x1), (2, .int x2)] [] := by
    unfold f_X5_find_53 at h
    refine r_iinc (q := 2) (v := x2 + (1 : Int32)) dX5_find_53 rfl rfl (by decide) rfl ?_
    refine r_goto (t := 11) dX5_find_56 (by decide) ?_
    refine r_sub [1, 2, 0] rfl ?_
    exact hk11 _ _ _ _ h
set_option maxRecDepth 100000 in
set_option maxHeartbeats 4000000 in
theorem w_X5_find_11 {D : k_D} {dy : Nat → Nat} : ∀ (n : Nat) (x1 : Int32) (x2 : Int32) (S : St) (out : St), f_X5_find_11 n x1 x2 S = some out → Rn yX5_find cX5_find 3 none (k_rm 2) 0 0 D dy S (k_Pv dy out) 11 [(0, .ref (D.2.2 41)), (1, .int x1), (2, .int x2)] [] := by
  intro n
  induction n with
  | zero => intro x1 x2 S out h; cases h
  | succ n ih =>
    intro x1 x2 S out h
    rw [f_X5_find_11] at h
    refine r_iload_n 2 dX5_find_11 rfl rfl ?_
    refine r_aload_n 0 dX5_find_12 rfl rfl ?_
    refine gf_41_0 q_546 dX5_find_13 ?_
    refine gfN_0_12 q_269 dX5_find_16 ?_
    refine r_icmp_ge (t := 59) dX5_find_19 (by decide) (fun c => ?_) (fun c => ?_)
    · rw [if_pos c] at h
      refine r_sub [0] rfl ?_
      exact w_X5_find_59 _ _ h
    · rw [if_neg c] at h
      refine r_iload_n 2 dX5_find_22 rfl rfl ?_
      refine r_bipush (v := 10) dX5_find_23 rfl ?_
      refine r_icmp_ge (t := 59) dX5_find_25 (by decide) (fun c => ?_) (fun c => ?_)
      · rw [if_pos c] at h
        refine r_sub [0] rfl ?_
        exact w_X5_find_59 _ _ h
      · rw [if_neg c] at h
        refine r_aload_n 0 dX5_find_28 rfl rfl ?_
        refine gf_41_0 q_546 dX5_find_29 ?_
        refine gfN_0_11 q_267 dX5_find_32 ?_
        refine r_iload_n 2 dX5_find_35 rfl rfl ?_
        obtain ⟨c1, h⟩ := g_ite h
        refine al_12 (k_b_in c1) dX5_find_36 ?_
        refine r_iload_n 1 dX5_find_37 rfl rfl ?_
        refine r_icmp_ne (t := 53) dX5_find_38 (by decide) (fun c => ?_) (fun c => ?_)
        · rw [if_neg c] at h
          exact w_X5_find_53 ih _ _ _ _ h
        · rw [if_pos c] at h
          refine r_aload_n 0 dX5_find_41 rfl rfl ?_
          refine r_dup dX5_find_42 rfl ?_
          refine gf_41_3 q_549 dX5_find_43 ?_
          refine r_iconst (v := 1) dX5_find_46 rfl ?_
          refine r_iload_n 2 dX5_find_47 rfl rfl ?_
          refine r_ishl dX5_find_48 ?_
          refine r_ior dX5_find_49 ?_
          refine pf_41_3 q_549 dX5_find_50 ?_
          generalize sI S 27 ((gI S 27) ||| ((1 : Int32) <<< (x2 &&& 31))) = S2 at h ⊢
          replace h := g_let h
          exact w_X5_find_53 ih _ _ _ _ h
set_option maxRecDepth 100000 in
set_option maxHeartbeats 4000000 in
theorem w_X5_find_0 {D : k_D} {dy : Nat → Nat} (x1 : Int32) (S : St) (out : St) (h : f_X5_find x1 S = some out) : Rn yX5_find cX5_find 3 none (k_rm 2) 0 0 D dy S (k_Pv dy out) 0 [(0, .ref (D.2.2 41)), (1, .int x1)] [] := by
    unfold f_X5_find at h
    refine r_aload_n 0 dX5_find_0 rfl rfl ?_
    obtain ⟨q1, hq1, h⟩ := g_bind h
    refine r_callVv [] [] q1 (ok_X5_followAhead hq1) q_1205 q_1207 q_76 q_1208 q_151 hd_X5_followAhead (ce_41 D dy _) kc5.1 rfl ⟨Nat.le_of_ble_eq_true rfl, Nat.le_of_ble_eq_true rfl⟩ rfl rfl (Nat.le_of_ble_eq_true rfl) dX5_find_1 ?_
    refine r_aload_n 0 dX5_find_4 rfl rfl ?_
    refine r_iconst (v := 0) dX5_find_5 rfl ?_
    refine pf_41_3 q_549 dX5_find_6 ?_
    generalize sI q1 27 (0 : Int32) = S1 at h ⊢
    replace h := g_let h
    refine r_iconst (v := 0) dX5_find_9 rfl ?_
    refine r_istore_n dX5_find_10 rfl (by decide) rfl ?_
    refine r_sub [1, 2, 0] rfl ?_
    exact w_X5_find_11 _ _ _ _ _ h
theorem ok_X5_find {D : k_D} {dy : Nat → Nat} {x1 : Int32} {S : St} {out : St} (h : f_X5_find x1 S = some out) : Sp yX5_find cX5_find 3 none (k_rm 2) D dy S [.ref (D.2.2 41), .int x1] (k_Pv dy out) := Sp.of (by decide +kernel) (Nat.le_of_ble_eq_true rfl) (w_X5_find_0 _ S out h)
noncomputable def f_X5_all_32 (s0 : Int32) (S : St) : Option (Int32 × St) := some (s0, S)
noncomputable def f_X5_all_31 (S : St) : Option (Int32 × St) := f_X5_all_32 (0 : Int32) S
noncomputable def f_X5_all (S : St) : Option (Int32 × St) := if (gI S 27) < 0 then f_X5_all_31 S else if (1024 : Int32) ≤ (gI S 27) then f_X5_all_31 S else if k_b (gI S 27) 1024 = true then f_X5_all_32 (gA S 43 (gI S 27).toNatClampNeg) S else none
set_option maxRecDepth 100000 in
set_option maxHeartbeats 4000000 in
theorem w_X5_all_32 {D : k_D} {dy : Nat → Nat} (s0 : Int32) (S : St) (out : Int32 × St) (h : f_X5_all_32 s0 S = some out) : Rn yX5_all cX5_all 1 (some .int) (k_rm 0) 0 0 D dy S (k_Pi dy out) 32 [] [.int s0] := by
    unfold f_X5_all_32 at h
    cases h
    exact r_iret rfl dX5_all_32 ⟨rfl, rfl, rfl⟩
set_option maxRecDepth 100000 in
set_option maxHeartbeats 4000000 in
theorem w_X5_all_31 {D : k_D} {dy : Nat → Nat} (S : St) (out : Int32 × St) (h : f_X5_all_31 S = some out) : Rn yX5_all cX5_all 1 (some .int) (k_rm 0) 0 0 D dy S (k_Pi dy out) 31 [] [] := by
    unfold f_X5_all_31 at h
    refine r_iconst (v := 0) dX5_all_31 rfl ?_
    exact w_X5_all_32 _ _ _ h
set_option maxRecDepth 100000 in
set_option maxHeartbeats 4000000 in
theorem w_X5_all_0 {D : k_D} {dy : Nat → Nat} (S : St) (out : Int32 × St) (h : f_X5_all S = some out) : Rn yX5_all cX5_all 1 (some .int) (k_rm 0) 0 0 D dy S (k_Pi dy out) 0 [(0, .ref (D.2.2 41))] [] := by
    unfold f_X5_all at h
    refine r_aload_n 0 dX5_all_0 rfl rfl ?_
    refine gf_41_3 q_549 dX5_all_1 ?_
    refine r_if_lt (t := 31) dX5_all_4 (by decide) (fun c => ?_) (fun c => ?_)
    · rw [if_pos c] at h
      refine r_sub [] rfl ?_
      exact w_X5_all_31 _ _ h
    · rw [if_neg c] at h
      refine r_aload_n 0 dX5_all_7 rfl rfl ?_
      refine gf_41_3 q_549 dX5_all_8 ?_
      refine r_aload_n 0 dX5_all_11 rfl rfl ?_
      refine gf_41_2 q_548 dX5_all_12 ?_
      refine ln_43 dX5_all_15 ?_
      refine r_icmp_ge (t := 31) dX5_all_16 (by decide) (fun c => ?_) (fun c => ?_)
      · rw [if_pos c] at h
        refine r_sub [] rfl ?_
        exact w_X5_all_31 _ _ h
      · rw [if_neg c] at h
        refine r_aload_n 0 dX5_all_19 rfl rfl ?_
        refine gf_41_2 q_548 dX5_all_20 ?_
        refine r_aload_n 0 dX5_all_23 rfl rfl ?_
        refine gf_41_3 q_549 dX5_all_24 ?_
        obtain ⟨c1, h⟩ := g_ite h
        refine al_43 (k_b_in c1) dX5_all_27 ?_
        refine r_goto (t := 32) dX5_all_28 (by decide) ?_
        refine r_sub [] rfl ?_
        exact w_X5_all_32 _ _ _ h
theorem ok_X5_all {D : k_D} {dy : Nat → Nat} {S : St} {out : Int32 × St} (h : f_X5_all S = some out) : Sp yX5_all cX5_all 1 (some .int) (k_rm 0) D dy S [.ref (D.2.2 41)] (k_Pi dy out) := Sp.of (by decide +kernel) (Nat.le_of_ble_eq_true rfl) (w_X5_all_0 S out h)
noncomputable def f_X5_endedBy_52 (x2 : Int32) (S : St) : Option (Int32 × St) := some (x2, S)
noncomputable def f_X5_endedBy_46 (k4 : Int32 → Int32 → Int32 → St → Option (Int32 × St)) (x1 : Int32) (x2 : Int32) (x3 : Int32) (S : St) : Option (Int32 × St) := k4 x1 x2 (x3 + (1 : Int32)) S
noncomputable def f_X5_endedBy_4 : Nat → Int32 → Int32 → Int32 → St → Option (Int32 × St)
  | 0, _, _, _, _ => none
  | n + 1, x1, x2, x3, S => if (gI S 6) ≤ x3 then f_X5_endedBy_52 x2 S else if (10 : Int32) ≤ x3 then f_X5_endedBy_52 x2 S else if k_b x3 10 = true then if (gA S 11 x3.toNatClampNeg) = x1 then (f_X5_endingWith x3 (gI S 27) S).bind fun q41 => f_X5_endedBy_46 (f_X5_endedBy_4 n) x1 (x2 + q41.1) x3 q41.2 else f_X5_endedBy_46 (f_X5_endedBy_4 n) x1 x2 x3 S else none
noncomputable def f_X5_endedBy (x1 : Int32) (S : St) : Option (Int32 × St) := f_X5_endedBy_4 FU x1 (0 : Int32) (0 : Int32) S
set_option maxRecDepth 100000 in
set_option maxHeartbeats 4000000 in
theorem w_X5_endedBy_52 {D : k_D} {dy : Nat → Nat} (x2 : Int32) (S : St) (out : Int32 × St) (h : f_X5_endedBy_52 x2 S = some out) : Rn yX5_endedBy cX5_endedBy 4 (some .int) (k_rm 1) 0 0 D dy S (k_Pi dy out) 52 [(2, .int x2)] [] := by
    unfold f_X5_endedBy_52 at h
    refine r_iload_n 0 dX5_endedBy_52 rfl rfl ?_
    cases h
    exact r_iret rfl dX5_endedBy_53 ⟨rfl, rfl, rfl⟩
set_option maxRecDepth 100000 in
set_option maxHeartbeats 4000000 in
theorem w_X5_endedBy_46 {D : k_D} {dy : Nat → Nat} {k4 : Int32 → Int32 → Int32 → St → Option (Int32 × St)} (hk4 : ∀ (x1 : Int32) (x2 : Int32) (x3 : Int32) (S : St) (out : Int32 × St), k4 x1 x2 x3 S = some out → Rn yX5_endedBy cX5_endedBy 4 (some .int) (k_rm 1) 0 0 D dy S (k_Pi dy out) 4 [(0, .ref (D.2.2 41)), (1, .int x1), (2, .int x2), (3, .int x3)] []) (x1 : Int32) (x2 : Int32) (x3 : Int32) (S : St) (out : Int32 × St) (h : f_X5_endedBy_46 k4 x1 x2 x3 S = some out) : Rn yX5_endedBy cX5_endedBy 4 (some .int) (k_rm 1) 0 0 D dy S (k_Pi dy out) 46 [(0, .ref (D.2.2 41)), (1, .int x1), (2, .int x2), (3, .int x3)] [] := by
    unfold f_X5_endedBy_46 at h
    refine r_iinc (q := 3) (v := x3 + (1 : Int32)) dX5_endedBy_46 rfl rfl (by decide) rfl ?_
    refine r_goto (t := 4) dX5_endedBy_49 (by decide) ?_
    refine r_sub [1, 2, 3, 0] rfl ?_
    exact hk4 _ _ _ _ _ h
set_option maxRecDepth 100000 in
set_option maxHeartbeats 4000000 in
theorem w_X5_endedBy_4 {D : k_D} {dy : Nat → Nat} : ∀ (n : Nat) (x1 : Int32) (x2 : Int32) (x3 : Int32) (S : St) (out : Int32 × St), f_X5_endedBy_4 n x1 x2 x3 S = some out → Rn yX5_endedBy cX5_endedBy 4 (some .int) (k_rm 1) 0 0 D dy S (k_Pi dy out) 4 [(0, .ref (D.2.2 41)), (1, .int x1), (2, .int x2), (3, .int x3)] [] := by
  intro n
  induction n with
  | zero => intro x1 x2 x3 S out h; cases h
  | succ n ih =>
    intro x1 x2 x3 S out h
    rw [f_X5_endedBy_4] at h
    refine r_iload_n 3 dX5_endedBy_4 rfl rfl ?_
    refine r_aload_n 0 dX5_endedBy_5 rfl rfl ?_
    refine gf_41_0 q_546 dX5_endedBy_6 ?_
    refine gfN_0_12 q_269 dX5_endedBy_9 ?_
    refine r_icmp_ge (t := 52) dX5_endedBy_12 (by decide) (fun c => ?_) (fun c => ?_)
    · rw [if_pos c] at h
      refine r_sub [2] rfl ?_
      exact w_X5_endedBy_52 _ _ _ h
    · rw [if_neg c] at h
      refine r_iload_n 3 dX5_endedBy_15 rfl rfl ?_
      refine r_bipush (v := 10) dX5_endedBy_16 rfl ?_
      refine r_icmp_ge (t := 52) dX5_endedBy_18 (by decide) (fun c => ?_) (fun c => ?_)
      · rw [if_pos c] at h
        refine r_sub [2] rfl ?_
        exact w_X5_endedBy_52 _ _ _ h
      · rw [if_neg c] at h
        refine r_aload_n 0 dX5_endedBy_21 rfl rfl ?_
        refine gf_41_0 q_546 dX5_endedBy_22 ?_
        refine gfN_0_10 q_265 dX5_endedBy_25 ?_
        refine r_iload_n 3 dX5_endedBy_28 rfl rfl ?_
        obtain ⟨c1, h⟩ := g_ite h
        refine al_11 (k_b_in c1) dX5_endedBy_29 ?_
        refine r_iload_n 1 dX5_endedBy_30 rfl rfl ?_
        refine r_icmp_ne (t := 46) dX5_endedBy_31 (by decide) (fun c => ?_) (fun c => ?_)
        · rw [if_neg c] at h
          exact w_X5_endedBy_46 ih _ _ _ _ _ h
        · rw [if_pos c] at h
          refine r_iload_n 2 dX5_endedBy_34 rfl rfl ?_
          refine r_aload_n 0 dX5_endedBy_35 rfl rfl ?_
          refine r_iload_n 3 dX5_endedBy_36 rfl rfl ?_
          refine r_aload_n 0 dX5_endedBy_37 rfl rfl ?_
          refine gf_41_3 q_549 dX5_endedBy_38 ?_
          obtain ⟨q41, hq41, h⟩ := g_bind h
          refine r_callVi [.int x3, .int (gI S 27)] [.int x2] q41 (ok_X5_endingWith hq41) q_1215 q_1217 q_78 q_1218 q_151 hd_X5_endingWith (ce_41 D dy _) kc5.1 rfl ⟨Nat.le_of_ble_eq_true rfl, Nat.le_of_ble_eq_true rfl⟩ rfl rfl (Nat.le_of_ble_eq_true rfl) dX5_endedBy_41 ?_
          refine r_iadd dX5_endedBy_44 ?_
          refine r_istore_n dX5_endedBy_45 rfl (by decide) rfl ?_
          refine r_sub [1, 2, 0, 3] rfl ?_
          exact w_X5_endedBy_46 ih _ _ _ _ _ h
set_option maxRecDepth 100000 in
set_option maxHeartbeats 4000000 in
theorem w_X5_endedBy_0 {D : k_D} {dy : Nat → Nat} (x1 : Int32) (S : St) (out : Int32 × St) (h : f_X5_endedBy x1 S = some out) : Rn yX5_endedBy cX5_endedBy 4 (some .int) (k_rm 1) 0 0 D dy S (k_Pi dy out) 0 [(0, .ref (D.2.2 41)), (1, .int x1)] [] := by
    unfold f_X5_endedBy at h
    refine r_iconst (v := 0) dX5_endedBy_0 rfl ?_
    refine r_istore_n dX5_endedBy_1 rfl (by decide) rfl ?_
    refine r_iconst (v := 0) dX5_endedBy_2 rfl ?_
    refine r_istore_n dX5_endedBy_3 rfl (by decide) rfl ?_
    refine r_sub [2, 3, 1, 0] rfl ?_
    exact w_X5_endedBy_4 _ _ _ _ _ _ h
theorem ok_X5_endedBy {D : k_D} {dy : Nat → Nat} {x1 : Int32} {S : St} {out : Int32 × St} (h : f_X5_endedBy x1 S = some out) : Sp yX5_endedBy cX5_endedBy 4 (some .int) (k_rm 1) D dy S [.ref (D.2.2 41), .int x1] (k_Pi dy out) := Sp.of (by decide +kernel) (Nat.le_of_ble_eq_true rfl) (w_X5_endedBy_0 _ S out h)
noncomputable def f_X6_draw_33 (s0 : Int32) (S : St) : Option (Int32 × St) := some (s0, S)
noncomputable def f_X6_draw (x1 : Int32) (S : St) : Option (Int32 × St) := k_let (sI S 29 ((((gI S 29) * (1103 : Int32)) + (12345 : Int32)) - (((gI S 29) * (1103 : Int32)) + (12345 : Int32)) / (1000003 : Int32) * (1000003 : Int32))) fun S1 => if x1 ≤ 0 then f_X6_draw_33 (0 : Int32) S1 else if ¬ x1 = 0 then f_X6_draw_33 ((gI S1 29) - (gI S1 29) / x1 * x1) S1 else none
set_option maxRecDepth 100000 in
set_option maxHeartbeats 4000000 in
theorem w_X6_draw_33 {D : k_D} {dy : Nat → Nat} (s0 : Int32) (S : St) (out : Int32 × St) (h : f_X6_draw_33 s0 S = some out) : Rn yX6_draw cX6_draw 2 (some .int) (k_rm 0) 0 0 D dy S (k_Pi dy out) 33 [] [.int s0] := by
    unfold f_X6_draw_33 at h
    cases h
    exact r_iret rfl dX6_draw_33 ⟨rfl, rfl, rfl⟩
set_option maxRecDepth 100000 in
set_option maxHeartbeats 4000000 in
theorem w_X6_draw_0 {D : k_D} {dy : Nat → Nat} (x1 : Int32) (S : St) (out : Int32 × St) (h : f_X6_draw x1 S = some out) : Rn yX6_draw cX6_draw 2 (some .int) (k_rm 0) 0 0 D dy S (k_Pi dy out) 0 [(0, .ref (D.2.2 44)), (1, .int x1)] [] := by
    unfold f_X6_draw at h
    refine r_aload_n 0 dX6_draw_0 rfl rfl ?_
    refine r_aload_n 0 dX6_draw_1 rfl rfl ?_
    refine gf_44_6 q_574 dX6_draw_2 ?_
    refine r_sipush (v := 1103) dX6_draw_5 rfl ?_
    refine r_imul dX6_draw_8 ?_
    refine r_sipush (v := 12345) dX6_draw_9 rfl ?_
    refine r_iadd dX6_draw_12 ?_
    refine r_ldc (v := 1000003) q_1245 dX6_draw_13 ?_
    refine r_irem dX6_draw_15 (by decide) ?_
    refine pf_44_6 q_574 dX6_draw_16 ?_
    generalize sI S 29 ((((gI S 29) * (1103 : Int32)) + (12345 : Int32)) - (((gI S 29) * (1103 : Int32)) + (12345 : Int32)) / (1000003 : Int32) * (1000003 : Int32)) = S1 at h ⊢
    replace h := g_let h
    refine r_iload_n 1 dX6_draw_19 rfl rfl ?_
    refine r_if_le (t := 32) dX6_draw_20 (by decide) (fun c => ?_) (fun c => ?_)
    · rw [if_pos c] at h
      refine r_iconst (v := 0) dX6_draw_32 rfl ?_
      refine r_sub [] rfl ?_
      exact w_X6_draw_33 _ _ _ h
    · rw [if_neg c] at h
      refine r_aload_n 0 dX6_draw_23 rfl rfl ?_
      refine gf_44_6 q_574 dX6_draw_24 ?_
      refine r_iload_n 1 dX6_draw_27 rfl rfl ?_
      obtain ⟨c2, h⟩ := g_ite h
      refine r_irem dX6_draw_28 c2 ?_
      refine r_goto (t := 33) dX6_draw_29 (by decide) ?_
      refine r_sub [] rfl ?_
      exact w_X6_draw_33 _ _ _ h
theorem ok_X6_draw {D : k_D} {dy : Nat → Nat} {x1 : Int32} {S : St} {out : Int32 × St} (h : f_X6_draw x1 S = some out) : Sp yX6_draw cX6_draw 2 (some .int) (k_rm 0) D dy S [.ref (D.2.2 44), .int x1] (k_Pi dy out) := Sp.of (by decide +kernel) (Nat.le_of_ble_eq_true rfl) (w_X6_draw_0 _ S out h)
noncomputable def f_X6_takesOver_70 (S : St) : Option (Int32 × St) := some ((0 : Int32), S)
noncomputable def f_X6_takesOver_64 (k2 : Int32 → Int32 → Int32 → St → Option (Int32 × St)) (x1 : Int32) (x2 : Int32) (x3 : Int32) (S : St) : Option (Int32 × St) := k2 x1 x2 (x3 + (1 : Int32)) S
noncomputable def f_X6_takesOver_2 : Nat → Int32 → Int32 → Int32 → St → Option (Int32 × St)
  | 0, _, _, _, _ => none
  | n + 1, x1, x2, x3, S => if (gI S 1) ≤ x3 then f_X6_takesOver_70 S else if (16 : Int32) ≤ x3 then f_X6_takesOver_70 S else if k_b x3 16 = true then if (gA S 5 x3.toNatClampNeg) = x2 then if k_b x3 16 = true then if (gA S 45 x3.toNatClampNeg) = x1 then f_X6_takesOver_64 (f_X6_takesOver_2 n) x1 x2 x3 S else if k_b x3 16 = true then if (gA S 4 x3.toNatClampNeg) = x1 then f_X6_takesOver_64 (f_X6_takesOver_2 n) x1 x2 x3 S else if k_b x3 16 = true then k_let (sA S 45 x3.toNatClampNeg x1) fun S5 => some ((1 : Int32), S5) else none else none else none else f_X6_takesOver_64 (f_X6_takesOver_2 n) x1 x2 x3 S else none
noncomputable def f_X6_takesOver (x1 : Int32) (x2 : Int32) (S : St) : Option (Int32 × St) := f_X6_takesOver_2 FU x1 x2 (0 : Int32) S
set_option maxRecDepth 100000 in
set_option maxHeartbeats 4000000 in
theorem w_X6_takesOver_70 {D : k_D} {dy : Nat → Nat} (S : St) (out : Int32 × St) (h : f_X6_takesOver_70 S = some out) : Rn yX6_takesOver cX6_takesOver 4 (some .boolean) (k_rm 0) 0 0 D dy S (k_Pi dy out) 70 [] [] := by
    unfold f_X6_takesOver_70 at h
    refine r_iconst (v := 0) dX6_takesOver_70 rfl ?_
    cases h
    exact r_zret rfl rfl dX6_takesOver_71 ⟨rfl, rfl, rfl⟩
set_option maxRecDepth 100000 in
set_option maxHeartbeats 4000000 in
theorem w_X6_takesOver_64 {D : k_D} {dy : Nat → Nat} {k2 : Int32 → Int32 → Int32 → St → Option (Int32 × St)} (hk2 : ∀ (x1 : Int32) (x2 : Int32) (x3 : Int32) (S : St) (out : Int32 × St), k2 x1 x2 x3 S = some out → Rn yX6_takesOver cX6_takesOver 4 (some .boolean) (k_rm 0) 0 0 D dy S (k_Pi dy out) 2 [(0, .ref (D.2.2 44)), (1, .int x1), (2, .int x2), (3, .int x3)] []) (x1 : Int32) (x2 : Int32) (x3 : Int32) (S : St) (out : Int32 × St) (h : f_X6_takesOver_64 k2 x1 x2 x3 S = some out) : Rn yX6_takesOver cX6_takesOver 4 (some .boolean) (k_rm 0) 0 0 D dy S (k_Pi dy out) 64 [(0, .ref (D.2.2 44)), (1, .int x1), (2, .int x2), (3, .int x3)] [] := by
    unfold f_X6_takesOver_64 at h
    refine r_iinc (q := 3) (v := x3 + (1 : Int32)) dX6_takesOver_64 rfl rfl (by decide) rfl ?_
    refine r_goto (t := 2) dX6_takesOver_67 (by decide) ?_
    refine r_sub [1, 2, 3, 0] rfl ?_
    exact hk2 _ _ _ _ _ h
set_option maxRecDepth 100000 in
set_option maxHeartbeats 4000000 in
theorem w_X6_takesOver_2 {D : k_D} {dy : Nat → Nat} : ∀ (n : Nat) (x1 : Int32) (x2 : Int32) (x3 : Int32) (S : St) (out : Int32 × St), f_X6_takesOver_2 n x1 x2 x3 S = some out → Rn yX6_takesOver cX6_takesOver 4 (some .boolean) (k_rm 0) 0 0 D dy S (k_Pi dy out) 2 [(0, .ref (D.2.2 44)), (1, .int x1), (2, .int x2), (3, .int x3)] [] := by
  intro n
  induction n with
  | zero => intro x1 x2 x3 S out h; cases h
  | succ n ih =>
    intro x1 x2 x3 S out h
    rw [f_X6_takesOver_2] at h
    refine r_iload_n 3 dX6_takesOver_2 rfl rfl ?_
    refine r_aload_n 0 dX6_takesOver_3 rfl rfl ?_
    refine gf_44_1 q_566 dX6_takesOver_4 ?_
    refine gfN_2_5 q_217 dX6_takesOver_7 ?_
    refine r_icmp_ge (t := 70) dX6_takesOver_10 (by decide) (fun c => ?_) (fun c => ?_)
    · rw [if_pos c] at h
      refine r_sub [] rfl ?_
      exact w_X6_takesOver_70 _ _ h
    · rw [if_neg c] at h
      refine r_iload_n 3 dX6_takesOver_13 rfl rfl ?_
      refine r_bipush (v := 16) dX6_takesOver_14 rfl ?_
      refine r_icmp_ge (t := 70) dX6_takesOver_16 (by decide) (fun c => ?_) (fun c => ?_)
      · rw [if_pos c] at h
        refine r_sub [] rfl ?_
        exact w_X6_takesOver_70 _ _ h
      · rw [if_neg c] at h
        refine r_aload_n 0 dX6_takesOver_19 rfl rfl ?_
        refine gf_44_1 q_566 dX6_takesOver_20 ?_
        refine gfN_2_2 q_198 dX6_takesOver_23 ?_
        refine r_iload_n 3 dX6_takesOver_26 rfl rfl ?_
        obtain ⟨c1, h⟩ := g_ite h
        refine al_5 (k_b_in c1) dX6_takesOver_27 ?_
        refine r_iload_n 2 dX6_takesOver_28 rfl rfl ?_
        refine r_icmp_ne (t := 64) dX6_takesOver_29 (by decide) (fun c => ?_) (fun c => ?_)
        · rw [if_neg c] at h
          exact w_X6_takesOver_64 ih _ _ _ _ _ h
        · rw [if_pos c] at h
          refine r_aload_n 0 dX6_takesOver_32 rfl rfl ?_
          refine gf_44_2 q_567 dX6_takesOver_33 ?_
          refine r_iload_n 3 dX6_takesOver_36 rfl rfl ?_
          obtain ⟨c2, h⟩ := g_ite h
          refine al_45 (k_b_in c2) dX6_takesOver_37 ?_
          refine r_iload_n 1 dX6_takesOver_38 rfl rfl ?_
          refine r_icmp_eq (t := 64) dX6_takesOver_39 (by decide) (fun c => ?_) (fun c => ?_)
          · rw [if_pos c] at h
            exact w_X6_takesOver_64 ih _ _ _ _ _ h
          · rw [if_neg c] at h
            refine r_aload_n 0 dX6_takesOver_42 rfl rfl ?_
            refine gf_44_1 q_566 dX6_takesOver_43 ?_
            refine gfN_2_1 q_194 dX6_takesOver_46 ?_
            refine r_iload_n 3 dX6_takesOver_49 rfl rfl ?_
            obtain ⟨c3, h⟩ := g_ite h
            refine al_4 (k_b_in c3) dX6_takesOver_50 ?_
            refine r_iload_n 1 dX6_takesOver_51 rfl rfl ?_
            refine r_icmp_eq (t := 64) dX6_takesOver_52 (by decide) (fun c => ?_) (fun c => ?_)
            · rw [if_pos c] at h
              exact w_X6_takesOver_64 ih _ _ _ _ _ h
            · rw [if_neg c] at h
              refine r_aload_n 0 dX6_takesOver_55 rfl rfl ?_
              refine gf_44_2 q_567 dX6_takesOver_56 ?_
              refine r_iload_n 3 dX6_takesOver_59 rfl rfl ?_
              refine r_iload_n 1 dX6_takesOver_60 rfl rfl ?_
              obtain ⟨c4, h⟩ := g_ite h
              refine as_45 (k_b_in c4) dX6_takesOver_61 ?_
              generalize sA S 45 x3.toNatClampNeg x1 = S5 at h ⊢
              replace h := g_let h
              refine r_iconst (v := 1) dX6_takesOver_62 rfl ?_
              cases h
              exact r_zret rfl rfl dX6_takesOver_63 ⟨rfl, rfl, rfl⟩
set_option maxRecDepth 100000 in
set_option maxHeartbeats 4000000 in
theorem w_X6_takesOver_0 {D : k_D} {dy : Nat → Nat} (x1 : Int32) (x2 : Int32) (S : St) (out : Int32 × St) (h : f_X6_takesOver x1 x2 S = some out) : Rn yX6_takesOver cX6_takesOver 4 (some .boolean) (k_rm 0) 0 0 D dy S (k_Pi dy out) 0 [(0, .ref (D.2.2 44)), (1, .int x1), (2, .int x2)] [] := by
    unfold f_X6_takesOver at h
    refine r_iconst (v := 0) dX6_takesOver_0 rfl ?_
    refine r_istore_n dX6_takesOver_1 rfl (by decide) rfl ?_
    refine r_sub [1, 2, 3, 0] rfl ?_
    exact w_X6_takesOver_2 _ _ _ _ _ _ h
theorem ok_X6_takesOver {D : k_D} {dy : Nat → Nat} {x1 : Int32} {x2 : Int32} {S : St} {out : Int32 × St} (h : f_X6_takesOver x1 x2 S = some out) : Sp yX6_takesOver cX6_takesOver 4 (some .boolean) (k_rm 0) D dy S [.ref (D.2.2 44), .int x1, .int x2] (k_Pi dy out) := Sp.of (by decide +kernel) (Nat.le_of_ble_eq_true rfl) (w_X6_takesOver_0 _ _ S out h)
noncomputable def f_J7_fill_53178_a46_5 : Nat → Int32 → Int32 → Int32 → St → Option (St)
  | 0, _, _, _, _ => none
  | n + 1, x1, x2, x3, S => if x3 ≤ x2 then some S else if k_b x2 8 = true then k_let (sA S 46 x2.toNatClampNeg x1) fun S2 => f_J7_fill_53178_a46_5 n x1 (x2 + (1 : Int32)) x3 S2 else none
noncomputable def f_J7_fill_53178_a46 (x1 : Int32) (S : St) : Option (St) := f_J7_fill_53178_a46_5 FU x1 (0 : Int32) (8 : Int32) S
set_option maxRecDepth 100000 in
set_option maxHeartbeats 4000000 in
theorem w_J7_fill_53178_a46_5 {D : k_D} {dy : Nat → Nat} : ∀ (n : Nat) (x1 : Int32) (x2 : Int32) (x3 : Int32) (S : St) (out : St), f_J7_fill_53178_a46_5 n x1 x2 x3 S = some out → Rn yJ7_fill_53178 cJ7_fill_53178 4 none (k_rm 0) 0 0 D dy S (k_Pv dy out) 5 [(0, .ref (D.2.2 46)), (1, .int x1), (2, .int x2), (3, .int x3)] [] := by
  intro n
  induction n with
  | zero => intro x1 x2 x3 S out h; cases h
  | succ n ih =>
    intro x1 x2 x3 S out h
    rw [f_J7_fill_53178_a46_5] at h
    refine r_iload_n 2 dJ7_fill_53178_5 rfl rfl ?_
    refine r_iload_n 3 dJ7_fill_53178_6 rfl rfl ?_
    refine r_icmp_ge (t := 20) dJ7_fill_53178_7 (by decide) (fun c => ?_) (fun c => ?_)
    · rw [if_pos c] at h
      exact r_vret rfl dJ7_fill_53178_20 ⟨rfl, rfl, Option.some.inj h⟩
    · rw [if_neg c] at h
      refine r_aload_n 0 dJ7_fill_53178_10 rfl rfl ?_
      refine r_iload_n 2 dJ7_fill_53178_11 rfl rfl ?_
      refine r_iload_n 1 dJ7_fill_53178_12 rfl rfl ?_
      obtain ⟨c1, h⟩ := g_ite h
      refine as_46 (k_b_in c1) dJ7_fill_53178_13 ?_
      generalize sA S 46 x2.toNatClampNeg x1 = S2 at h ⊢
      replace h := g_let h
      refine r_iinc (q := 2) (v := x2 + (1 : Int32)) dJ7_fill_53178_14 rfl rfl (by decide) rfl ?_
      refine r_goto (t := 5) dJ7_fill_53178_17 (by decide) ?_
      refine r_sub [1, 2, 0, 3] rfl ?_
      exact ih _ _ _ _ _ h
set_option maxRecDepth 100000 in
set_option maxHeartbeats 4000000 in
theorem w_J7_fill_53178_a46_0 {D : k_D} {dy : Nat → Nat} (x1 : Int32) (S : St) (out : St) (h : f_J7_fill_53178_a46 x1 S = some out) : Rn yJ7_fill_53178 cJ7_fill_53178 4 none (k_rm 0) 0 0 D dy S (k_Pv dy out) 0 [(0, .ref (D.2.2 46)), (1, .int x1)] [] := by
    unfold f_J7_fill_53178_a46 at h
    refine r_iconst (v := 0) dJ7_fill_53178_0 rfl ?_
    refine r_istore_n dJ7_fill_53178_1 rfl (by decide) rfl ?_
    refine r_aload_n 1 dJ7_fill_53178_2 rfl rfl ?_
    refine ln_46 dJ7_fill_53178_3 ?_
    refine r_istore_n dJ7_fill_53178_4 rfl (by decide) rfl ?_
    refine r_sub [2, 3, 1, 0] rfl ?_
    exact w_J7_fill_53178_a46_5 _ _ _ _ _ _ h
theorem ok_J7_fill_53178_a46 {D : k_D} {dy : Nat → Nat} {x1 : Int32} {S : St} {out : St} (h : f_J7_fill_53178_a46 x1 S = some out) : Sp yJ7_fill_53178 cJ7_fill_53178 4 none (k_rm 0) D dy S [.ref (D.2.2 46), .int x1] (k_Pv dy out) := Sp.of (by decide +kernel) (Nat.le_of_ble_eq_true rfl) (w_J7_fill_53178_a46_0 _ S out h)
noncomputable def f_J7_fill_53178_a47_5 : Nat → Int32 → Int32 → Int32 → St → Option (St)
  | 0, _, _, _, _ => none
  | n + 1, x1, x2, x3, S => if x3 ≤ x2 then some S else if k_b x2 8 = true then k_let (sA S 47 x2.toNatClampNeg x1) fun S2 => f_J7_fill_53178_a47_5 n x1 (x2 + (1 : Int32)) x3 S2 else none
noncomputable def f_J7_fill_53178_a47 (x1 : Int32) (S : St) : Option (St) := f_J7_fill_53178_a47_5 FU x1 (0 : Int32) (8 : Int32) S
set_option maxRecDepth 100000 in
set_option maxHeartbeats 4000000 in
theorem w_J7_fill_53178_a47_5 {D : k_D} {dy : Nat → Nat} : ∀ (n : Nat) (x1 : Int32) (x2 : Int32) (x3 : Int32) (S : St) (out : St), f_J7_fill_53178_a47_5 n x1 x2 x3 S = some out → Rn yJ7_fill_53178 cJ7_fill_53178 4 none (k_rm 0) 0 0 D dy S (k_Pv dy out) 5 [(0, .ref (D.2.2 47)), (1, .int x1), (2, .int x2), (3, .int x3)] [] := by
  intro n
  induction n with
  | zero => intro x1 x2 x3 S out h; cases h
  | succ n ih =>
    intro x1 x2 x3 S out h
    rw [f_J7_fill_53178_a47_5] at h
    refine r_iload_n 2 dJ7_fill_53178_5 rfl rfl ?_
    refine r_iload_n 3 dJ7_fill_53178_6 rfl rfl ?_
    refine r_icmp_ge (t := 20) dJ7_fill_53178_7 (by decide) (fun c => ?_) (fun c => ?_)
    · rw [if_pos c] at h
      exact r_vret rfl dJ7_fill_53178_20 ⟨rfl, rfl, Option.some.inj h⟩
    · rw [if_neg c] at h
      refine r_aload_n 0 dJ7_fill_53178_10 rfl rfl ?_
      refine r_iload_n 2 dJ7_fill_53178_11 rfl rfl ?_
      refine r_iload_n 1 dJ7_fill_53178_12 rfl rfl ?_
      obtain ⟨c1, h⟩ := g_ite h
      refine as_47 (k_b_in c1) dJ7_fill_53178_13 ?_
      generalize sA S 47 x2.toNatClampNeg x1 = S2 at h ⊢
      replace h := g_let h
      refine r_iinc (q := 2) (v := x2 + (1 : Int32)) dJ7_fill_53178_14 rfl rfl (by decide) rfl ?_
      refine r_goto (t := 5) dJ7_fill_53178_17 (by decide) ?_
      refine r_sub [1, 2, 0, 3] rfl ?_
      exact ih _ _ _ _ _ h
set_option maxRecDepth 100000 in
set_option maxHeartbeats 4000000 in
theorem w_J7_fill_53178_a47_0 {D : k_D} {dy : Nat → Nat} (x1 : Int32) (S : St) (out : St) (h : f_J7_fill_53178_a47 x1 S = some out) : Rn yJ7_fill_53178 cJ7_fill_53178 4 none (k_rm 0) 0 0 D dy S (k_Pv dy out) 0 [(0, .ref (D.2.2 47)), (1, .int x1)] [] := by
    unfold f_J7_fill_53178_a47 at h
    refine r_iconst (v := 0) dJ7_fill_53178_0 rfl ?_
    refine r_istore_n dJ7_fill_53178_1 rfl (by decide) rfl ?_
    refine r_aload_n 1 dJ7_fill_53178_2 rfl rfl ?_
    refine ln_47 dJ7_fill_53178_3 ?_
    refine r_istore_n dJ7_fill_53178_4 rfl (by decide) rfl ?_
    refine r_sub [2, 3, 1, 0] rfl ?_
    exact w_J7_fill_53178_a47_5 _ _ _ _ _ _ h
theorem ok_J7_fill_53178_a47 {D : k_D} {dy : Nat → Nat} {x1 : Int32} {S : St} {out : St} (h : f_J7_fill_53178_a47 x1 S = some out) : Sp yJ7_fill_53178 cJ7_fill_53178 4 none (k_rm 0) D dy S [.ref (D.2.2 47), .int x1] (k_Pv dy out) := Sp.of (by decide +kernel) (Nat.le_of_ble_eq_true rfl) (w_J7_fill_53178_a47_0 _ S out h)
noncomputable def f_X6_addUp_93 (S : St) : Option (St) := some S
noncomputable def f_X6_addUp_87 (k18 : Int32 → St → Option (St)) (x1 : Int32) (S : St) : Option (St) := k18 (x1 + (1 : Int32)) S
noncomputable def f_X6_addUp_18 : Nat → Int32 → St → Option (St)
  | 0, _, _ => none
  | n + 1, x1, S => if (gI S 1) ≤ x1 then f_X6_addUp_93 S else if (16 : Int32) ≤ x1 then f_X6_addUp_93 S else if k_b x1 16 = true then (f_X11_isDancer (gA S 45 x1.toNatClampNeg) S).bind fun q43 => if q43.1 = 0 then f_X6_addUp_87 (f_X6_addUp_18 n) x1 q43.2 else if k_b (gA S 45 x1.toNatClampNeg) 8 = true then if k_b x1 16 = true then if k_b (gA S 45 x1.toNatClampNeg) 8 = true then k_let (sA q43.2 46 (gA S 45 x1.toNatClampNeg).toNatClampNeg ((gA q43.2 46 (gA S 45 x1.toNatClampNeg).toNatClampNeg) + (gA q43.2 6 x1.toNatClampNeg))) fun S5 => if k_b (gA S 45 x1.toNatClampNeg) 8 = true then if k_b x1 16 = true then if k_b (gA S 45 x1.toNatClampNeg) 8 = true then k_let (sA S5 47 (gA S 45 x1.toNatClampNeg).toNatClampNeg ((gA S5 47 (gA S 45 x1.toNatClampNeg).toNatClampNeg) ||| ((1 : Int32) <<< ((gA S5 4 x1.toNatClampNeg) &&& 31)))) fun S9 => f_X6_addUp_87 (f_X6_addUp_18 n) x1 S9 else none else none else none else none else none else none else none
noncomputable def f_X6_addUp (S : St) : Option (St) := (f_J7_fill_53178_a46 (0 : Int32) S).bind fun q5 => (f_J7_fill_53178_a47 (0 : Int32) q5).bind fun q13 => f_X6_addUp_18 FU (0 : Int32) q13
set_option maxRecDepth 100000 in
set_option maxHeartbeats 4000000 in
theorem w_X6_addUp_93 {D : k_D} {dy : Nat → Nat} (S : St) (out : St) (h : f_X6_addUp_93 S = some out) : Rn yX6_addUp cX6_addUp 3 none (k_rm 1) 0 0 D dy S (k_Pv dy out) 93 [] [] := by
    unfold f_X6_addUp_93 at h
    exact r_vret rfl dX6_addUp_93 ⟨rfl, rfl, Option.some.inj h⟩
set_option maxRecDepth 100000 in
set_option maxHeartbeats 4000000 in
theorem w_X6_addUp_87 {D : k_D} {dy : Nat → Nat} {k18 : Int32 → St → Option (St)} (hk18 : ∀ (x1 : Int32) (S : St) (out : St), k18 x1 S = some out → Rn yX6_addUp cX6_addUp 3 none (k_rm 1) 0 0 D dy S (k_Pv dy out) 18 [(0, .ref (D.2.2 44)), (1, .int x1)] []) (x1 : Int32) (S : St) (out : St) (h : f_X6_addUp_87 k18 x1 S = some out) : Rn yX6_addUp cX6_addUp 3 none (k_rm 1) 0 0 D dy S (k_Pv dy out) 87 [(0, .ref (D.2.2 44)), (1, .int x1)] [] := by
    unfold f_X6_addUp_87 at h
    refine r_iinc (q := 1) (v := x1 + (1 : Int32)) dX6_addUp_87 rfl rfl (by decide) rfl ?_
    refine r_goto (t := 18) dX6_addUp_90 (by decide) ?_
    refine r_sub [1, 0] rfl ?_
    exact hk18 _ _ _ h
set_option maxRecDepth 100000 in
set_option maxHeartbeats 4000000 in
theorem w_X6_addUp_18 {D : k_D} {dy : Nat → Nat} : ∀ (n : Nat) (x1 : Int32) (S : St) (out : St), f_X6_addUp_18 n x1 S = some out → Rn yX6_addUp cX6_addUp 3 none (k_rm 1) 0 0 D dy S (k_Pv dy out) 18 [(0, .ref (D.2.2 44)), (1, .int x1)] [] := by
  intro n
  induction n with
  | zero => intro x1 S out h; cases h
  | succ n ih =>
    intro x1 S out h
    rw [f_X6_addUp_18] at h
    refine r_iload_n 1 dX6_addUp_18 rfl rfl ?_
    refine r_aload_n 0 dX6_addUp_19 rfl rfl ?_
    refine gf_44_1 q_566 dX6_addUp_20 ?_
    refine gfN_2_5 q_217 dX6_addUp_23 ?_
    refine r_icmp_ge (t := 93) dX6_addUp_26 (by decide) (fun c => ?_) (fun c => ?_)
    · rw [if_pos c] at h
      refine r_sub [] rfl ?_
      exact w_X6_addUp_93 _ _ h
    · rw [if_neg c] at h
      refine r_iload_n 1 dX6_addUp_29 rfl rfl ?_
      refine r_bipush (v := 16) dX6_addUp_30 rfl ?_
      refine r_icmp_ge (t := 93) dX6_addUp_32 (by decide) (fun c => ?_) (fun c => ?_)
      · rw [if_pos c] at h
        refine r_sub [] rfl ?_
        exact w_X6_addUp_93 _ _ h
      · rw [if_neg c] at h
        refine r_aload_n 0 dX6_addUp_35 rfl rfl ?_
        refine gf_44_2 q_567 dX6_addUp_36 ?_
        refine r_iload_n 1 dX6_addUp_39 rfl rfl ?_
        obtain ⟨c1, h⟩ := g_ite h
        refine al_45 (k_b_in c1) dX6_addUp_40 ?_
        refine r_istore_n dX6_addUp_41 rfl (by decide) rfl ?_
        refine r_iload_n 0 dX6_addUp_42 rfl rfl ?_
        obtain ⟨q43, hq43, h⟩ := g_bind h
        refine r_callSNi [.int (gA S 45 x1.toNatClampNeg)] [] q43 (ok_X11_isDancer hq43) q_1255 q_668 q_669 q_141 hd_X11_isDancer ⟨Nat.le_of_ble_eq_true rfl, Nat.le_of_ble_eq_true rfl⟩ rfl rfl (Nat.le_of_ble_eq_true rfl) dX6_addUp_43 ?_
        refine r_if_eq (t := 87) dX6_addUp_46 (by decide) (fun c => ?_) (fun c => ?_)
        · rw [if_pos c] at h
          refine r_sub [1, 2] rfl ?_
          exact w_X6_addUp_87 ih _ _ _ h
        · rw [if_neg c] at h
          refine r_aload_n 1 dX6_addUp_49 rfl rfl ?_
          refine gf_44_3 q_568 dX6_addUp_50 ?_
          refine r_iload_n 0 dX6_addUp_53 rfl rfl ?_
          refine r_dup2 dX6_addUp_54 rfl rfl ?_
          obtain ⟨c2, h⟩ := g_ite h
          refine al_46 (k_b_in c2) dX6_addUp_55 ?_
          refine r_aload_n 1 dX6_addUp_56 rfl rfl ?_
          refine gf_44_1 q_566 dX6_addUp_57 ?_
          refine gfN_2_3 q_206 dX6_addUp_60 ?_
          refine r_iload_n 2 dX6_addUp_63 rfl rfl ?_
          obtain ⟨c3, h⟩ := g_ite h
          refine al_6 (k_b_in c3) dX6_addUp_64 ?_
          refine r_iadd dX6_addUp_65 ?_
          obtain ⟨c4, h⟩ := g_ite h
          refine as_46 (k_b_in c4) dX6_addUp_66 ?_
          generalize sA q43.2 46 (gA S 45 x1.toNatClampNeg).toNatClampNeg ((gA q43.2 46 (gA S 45 x1.toNatClampNeg).toNatClampNeg) + (gA q43.2 6 x1.toNatClampNeg)) = S5 at h ⊢
          replace h := g_let h
          refine r_aload_n 1 dX6_addUp_67 rfl rfl ?_
          refine gf_44_4 q_570 dX6_addUp_68 ?_
          refine r_iload_n 0 dX6_addUp_71 rfl rfl ?_
          refine r_dup2 dX6_addUp_72 rfl rfl ?_
          obtain ⟨c6, h⟩ := g_ite h
          refine al_47 (k_b_in c6) dX6_addUp_73 ?_
          refine r_iconst (v := 1) dX6_addUp_74 rfl ?_
          refine r_aload_n 1 dX6_addUp_75 rfl rfl ?_
          refine gf_44_1 q_566 dX6_addUp_76 ?_
          refine gfN_2_1 q_194 dX6_addUp_79 ?_
          refine r_iload_n 2 dX6_addUp_82 rfl rfl ?_
          obtain ⟨c7, h⟩ := g_ite h
          refine al_4 (k_b_in c7) dX6_addUp_83 ?_
          refine r_ishl dX6_addUp_84 ?_
          refine r_ior dX6_addUp_85 ?_
          obtain ⟨c8, h⟩ := g_ite h
          refine as_47 (k_b_in c8) dX6_addUp_86 ?_
          generalize sA S5 47 (gA S 45 x1.toNatClampNeg).toNatClampNeg ((gA S5 47 (gA S 45 x1.toNatClampNeg).toNatClampNeg) ||| ((1 : Int32) <<< ((gA S5 4 x1.toNatClampNeg) &&& 31))) = S9 at h ⊢
          replace h := g_let h
          refine r_sub [1, 2] rfl ?_
          exact w_X6_addUp_87 ih _ _ _ h
set_option maxRecDepth 100000 in
set_option maxHeartbeats 4000000 in
theorem w_X6_addUp_0 {D : k_D} {dy : Nat → Nat} (S : St) (out : St) (h : f_X6_addUp S = some out) : Rn yX6_addUp cX6_addUp 3 none (k_rm 1) 0 0 D dy S (k_Pv dy out) 0 [(0, .ref (D.2.2 44))] [] := by
    unfold f_X6_addUp at h
    refine r_aload_n 0 dX6_addUp_0 rfl rfl ?_
    refine gf_44_3 q_568 dX6_addUp_1 ?_
    refine r_iconst (v := 0) dX6_addUp_4 rfl ?_
    obtain ⟨q5, hq5, h⟩ := g_bind h
    refine r_callSv [.ref (D.2.2 46), .int (0 : Int32)] [] q5 (ok_J7_fill_53178_a46 hq5) q_1254 q_692 q_693 q_154 hd_J7_fill_53178 ⟨Nat.le_of_ble_eq_true rfl, Nat.le_of_ble_eq_true rfl⟩ rfl rfl (Nat.le_of_ble_eq_true rfl) dX6_addUp_5 ?_
    refine r_aload_n 0 dX6_addUp_8 rfl rfl ?_
    refine gf_44_4 q_570 dX6_addUp_9 ?_
    refine r_iconst (v := 0) dX6_addUp_12 rfl ?_
    obtain ⟨q13, hq13, h⟩ := g_bind h
    refine r_callSv [.ref (D.2.2 47), .int (0 : Int32)] [] q13 (ok_J7_fill_53178_a47 hq13) q_1254 q_692 q_693 q_154 hd_J7_fill_53178 ⟨Nat.le_of_ble_eq_true rfl, Nat.le_of_ble_eq_true rfl⟩ rfl rfl (Nat.le_of_ble_eq_true rfl) dX6_addUp_13 ?_
    refine r_iconst (v := 0) dX6_addUp_16 rfl ?_
    refine r_istore_n dX6_addUp_17 rfl (by decide) rfl ?_
    refine r_sub [1, 0] rfl ?_
    exact w_X6_addUp_18 _ _ _ _ h
theorem ok_X6_addUp {D : k_D} {dy : Nat → Nat} {S : St} {out : St} (h : f_X6_addUp S = some out) : Sp yX6_addUp cX6_addUp 3 none (k_rm 1) D dy S [.ref (D.2.2 44)] (k_Pv dy out) := Sp.of (by decide +kernel) (Nat.le_of_ble_eq_true rfl) (w_X6_addUp_0 S out h)
noncomputable def f_X9_byteAt_33 (s0 : Int32) (S : St) : Option (Int32 × St) := some (s0, S)
noncomputable def f_X9_byteAt_32 (S : St) : Option (Int32 × St) := f_X9_byteAt_33 (-1 : Int32) S
noncomputable def f_X9_byteAt (x1 : Int32) (S : St) : Option (Int32 × St) := if x1 < 0 then f_X9_byteAt_32 S else if (gI S 8) ≤ x1 then f_X9_byteAt_32 S else if (400 : Int32) ≤ x1 then f_X9_byteAt_32 S else if k_b x1 400 = true then f_X9_byteAt_33 ((gA S 16 x1.toNatClampNeg) &&& (255 : Int32)) S else none
set_option maxRecDepth 100000 in
set_option maxHeartbeats 4000000 in
theorem w_X9_byteAt_33 {D : k_D} {dy : Nat → Nat} (s0 : Int32) (S : St) (out : Int32 × St) (h : f_X9_byteAt_33 s0 S = some out) : Rn yX9_byteAt cX9_byteAt 2 (some .int) (k_rm 0) 0 0 D dy S (k_Pi dy out) 33 [] [.int s0] := by
    unfold f_X9_byteAt_33 at h
    cases h
    exact r_iret rfl dX9_byteAt_33 ⟨rfl, rfl, rfl⟩
set_option maxRecDepth 100000 in
set_option maxHeartbeats 4000000 in
theorem w_X9_byteAt_32 {D : k_D} {dy : Nat → Nat} (S : St) (out : Int32 × St) (h : f_X9_byteAt_32 S = some out) : Rn yX9_byteAt cX9_byteAt 2 (some .int) (k_rm 0) 0 0 D dy S (k_Pi dy out) 32 [] [] := by
    unfold f_X9_byteAt_32 at h
    refine r_iconst (v := -1) dX9_byteAt_32 rfl ?_
    exact w_X9_byteAt_33 _ _ _ h
set_option maxRecDepth 100000 in
set_option maxHeartbeats 4000000 in
theorem w_X9_byteAt_0 {D : k_D} {dy : Nat → Nat} (x1 : Int32) (S : St) (out : Int32 × St) (h : f_X9_byteAt x1 S = some out) : Rn yX9_byteAt cX9_byteAt 2 (some .int) (k_rm 0) 0 0 D dy S (k_Pi dy out) 0 [(0, .ref (D.2.2 15)), (1, .int x1)] [] := by
    unfold f_X9_byteAt at h
    refine r_iload_n 1 dX9_byteAt_0 rfl rfl ?_
    refine r_if_lt (t := 32) dX9_byteAt_1 (by decide) (fun c => ?_) (fun c => ?_)
    · rw [if_pos c] at h
      refine r_sub [] rfl ?_
      exact w_X9_byteAt_32 _ _ h
    · rw [if_neg c] at h
      refine r_iload_n 1 dX9_byteAt_4 rfl rfl ?_
      refine r_aload_n 0 dX9_byteAt_5 rfl rfl ?_
      refine gf_15_1 q_319 dX9_byteAt_6 ?_
      refine r_icmp_ge (t := 32) dX9_byteAt_9 (by decide) (fun c => ?_) (fun c => ?_)
      · rw [if_pos c] at h
        refine r_sub [] rfl ?_
        exact w_X9_byteAt_32 _ _ h
      · rw [if_neg c] at h
        refine r_iload_n 1 dX9_byteAt_12 rfl rfl ?_
        refine r_sipush (v := 400) dX9_byteAt_13 rfl ?_
        refine r_icmp_ge (t := 32) dX9_byteAt_16 (by decide) (fun c => ?_) (fun c => ?_)
        · rw [if_pos c] at h
          refine r_sub [] rfl ?_
          exact w_X9_byteAt_32 _ _ h
        · rw [if_neg c] at h
          refine r_aload_n 0 dX9_byteAt_19 rfl rfl ?_
          refine gf_15_0 q_318 dX9_byteAt_20 ?_
          refine r_iload_n 1 dX9_byteAt_23 rfl rfl ?_
          obtain ⟨c1, h⟩ := g_ite h
          refine al_16 (k_b_in c1) dX9_byteAt_24 ?_
          refine r_sipush (v := 255) dX9_byteAt_25 rfl ?_
          refine r_iand dX9_byteAt_28 ?_
          refine r_goto (t := 33) dX9_byteAt_29 (by decide) ?_
          refine r_sub [] rfl ?_
          exact w_X9_byteAt_33 _ _ _ h
theorem ok_X9_byteAt {D : k_D} {dy : Nat → Nat} {x1 : Int32} {S : St} {out : Int32 × St} (h : f_X9_byteAt x1 S = some out) : Sp yX9_byteAt cX9_byteAt 2 (some .int) (k_rm 0) D dy S [.ref (D.2.2 15), .int x1] (k_Pi dy out) := Sp.of (by decide +kernel) (Nat.le_of_ble_eq_true rfl) (w_X9_byteAt_0 _ S out h)
noncomputable def f_X7_isLetter_26 (s0 : Int32) (S : St) : Option (Int32 × St) := if s0 = 0 ∨ s0 = 1 then some (s0, S) else none
noncomputable def f_X7_isLetter_25 (S : St) : Option (Int32 × St) := f_X7_isLetter_26 (0 : Int32) S
noncomputable def f_X7_isLetter (x1 : Int32) (S : St) : Option (Int32 × St) := (f_X9_byteAt x1 S).bind fun q5 => if q5.1 < (97 : Int32) then f_X7_isLetter_25 q5.2 else if (122 : Int32) < q5.1 then f_X7_isLetter_25 q5.2 else f_X7_isLetter_26 (1 : Int32) q5.2
set_option maxRecDepth 100000 in
set_option maxHeartbeats 4000000 in
theorem w_X7_isLetter_26 {D : k_D} {dy : Nat → Nat} (s0 : Int32) (S : St) (out : Int32 × St) (h : f_X7_isLetter_26 s0 S = some out) : Rn yX7_isLetter cX7_isLetter 3 (some .boolean) (k_rm 1) 0 0 D dy S (k_Pi dy out) 26 [] [.int s0] := by
    unfold f_X7_isLetter_26 at h
    obtain ⟨c, h⟩ := g_ite h
    cases h
    exact r_zret rfl (k_zn c) dX7_isLetter_26 ⟨rfl, rfl, rfl⟩
set_option maxRecDepth 100000 in
set_option maxHeartbeats 4000000 in
theorem w_X7_isLetter_25 {D : k_D} {dy : Nat → Nat} (S : St) (out : Int32 × St) (h : f_X7_isLetter_25 S = some out) : Rn yX7_isLetter cX7_isLetter 3 (some .boolean) (k_rm 1) 0 0 D dy S (k_Pi dy out) 25 [] [] := by
    unfold f_X7_isLetter_25 at h
    refine r_iconst (v := 0) dX7_isLetter_25 rfl ?_
    exact w_X7_isLetter_26 _ _ _ h
set_option maxRecDepth 100000 in
set_option maxHeartbeats 4000000 in
theorem w_X7_isLetter_0 {D : k_D} {dy : Nat → Nat} (x1 : Int32) (S : St) (out : Int32 × St) (h : f_X7_isLetter x1 S = some out) : Rn yX7_isLetter cX7_isLetter 3 (some .boolean) (k_rm 1) 0 0 D dy S (k_Pi dy out) 0 [(0, .ref (D.2.2 23)), (1, .int x1)] [] := by
    unfold f_X7_isLetter at h
    refine r_aload_n 0 dX7_isLetter_0 rfl rfl ?_
    refine gf_23_0 q_334 dX7_isLetter_1 ?_
    refine r_iload_n 1 dX7_isLetter_4 rfl rfl ?_
    obtain ⟨q5, hq5, h⟩ := g_bind h
    refine r_callVNi [.int x1] [] q5 (ok_X9_byteAt hq5) q_812 q_794 q_23 q_795 q_144 hd_X9_byteAt (ce_15 D dy _) kc9.1 rfl ⟨Nat.le_of_ble_eq_true rfl, Nat.le_of_ble_eq_true rfl⟩ rfl rfl (Nat.le_of_ble_eq_true rfl) dX7_isLetter_5 ?_
    refine r_istore_n dX7_isLetter_8 rfl (by decide) rfl ?_
    refine r_iload_n 0 dX7_isLetter_9 rfl rfl ?_
    refine r_bipush (v := 97) dX7_isLetter_10 rfl ?_
    refine r_icmp_lt (t := 25) dX7_isLetter_12 (by decide) (fun c => ?_) (fun c => ?_)
    · rw [if_pos c] at h
      refine r_sub [] rfl ?_
      exact w_X7_isLetter_25 _ _ h
    · rw [if_neg c] at h
      refine r_iload_n 0 dX7_isLetter_15 rfl rfl ?_
      refine r_bipush (v := 122) dX7_isLetter_16 rfl ?_
      refine r_icmp_gt (t := 25) dX7_isLetter_18 (by decide) (fun c => ?_) (fun c => ?_)
      · rw [if_pos c] at h
        refine r_sub [] rfl ?_
        exact w_X7_isLetter_25 _ _ h
      · rw [if_neg c] at h
        refine r_iconst (v := 1) dX7_isLetter_21 rfl ?_
        refine r_goto (t := 26) dX7_isLetter_22 (by decide) ?_
        refine r_sub [] rfl ?_
        exact w_X7_isLetter_26 _ _ _ h
theorem ok_X7_isLetter {D : k_D} {dy : Nat → Nat} {x1 : Int32} {S : St} {out : Int32 × St} (h : f_X7_isLetter x1 S = some out) : Sp yX7_isLetter cX7_isLetter 3 (some .boolean) (k_rm 1) D dy S [.ref (D.2.2 23), .int x1] (k_Pi dy out) := Sp.of (by decide +kernel) (Nat.le_of_ble_eq_true rfl) (w_X7_isLetter_0 _ S out h)
noncomputable def f_X7_isDigit_26 (s0 : Int32) (S : St) : Option (Int32 × St) := if s0 = 0 ∨ s0 = 1 then some (s0, S) else none
noncomputable def f_X7_isDigit_25 (S : St) : Option (Int32 × St) := f_X7_isDigit_26 (0 : Int32) S
noncomputable def f_X7_isDigit (x1 : Int32) (S : St) : Option (Int32 × St) := (f_X9_byteAt x1 S).bind fun q5 => if q5.1 < (48 : Int32) then f_X7_isDigit_25 q5.2 else if (57 : Int32) < q5.1 then f_X7_isDigit_25 q5.2 else f_X7_isDigit_26 (1 : Int32) q5.2
set_option maxRecDepth 100000 in
set_option maxHeartbeats 4000000 in
theorem w_X7_isDigit_26 {D : k_D} {dy : Nat → Nat} (s0 : Int32) (S : St) (out : Int32 × St) (h : f_X7_isDigit_26 s0 S = some out) : Rn yX7_isDigit cX7_isDigit 3 (some .boolean) (k_rm 1) 0 0 D dy S (k_Pi dy out) 26 [] [.int s0] := by
    unfold f_X7_isDigit_26 at h
    obtain ⟨c, h⟩ := g_ite h
    cases h
    exact r_zret rfl (k_zn c) dX7_isDigit_26 ⟨rfl, rfl, rfl⟩
set_option maxRecDepth 100000 in
set_option maxHeartbeats 4000000 in
theorem w_X7_isDigit_25 {D : k_D} {dy : Nat → Nat} (S : St) (out : Int32 × St) (h : f_X7_isDigit_25 S = some out) : Rn yX7_isDigit cX7_isDigit 3 (some .boolean) (k_rm 1) 0 0 D dy S (k_Pi dy out) 25 [] [] := by
    unfold f_X7_isDigit_25 at h
    refine r_iconst (v := 0) dX7_isDigit_25 rfl ?_
    exact w_X7_isDigit_26 _ _ _ h
set_option maxRecDepth 100000 in
set_option maxHeartbeats 4000000 in
theorem w_X7_isDigit_0 {D : k_D} {dy : Nat → Nat} (x1 : Int32) (S : St) (out : Int32 × St) (h : f_X7_isDigit x1 S = some out) : Rn yX7_isDigit cX7_isDigit 3 (some .boolean) (k_rm 1) 0 0 D dy S (k_Pi dy out) 0 [(0, .ref (D.2.2 23)), (1, .int x1)] [] := by
    unfold f_X7_isDigit at h
    refine r_aload_n 0 dX7_isDigit_0 rfl rfl ?_
    refine gf_23_0 q_334 dX7_isDigit_1 ?_
    refine r_iload_n 1 dX7_isDigit_4 rfl rfl ?_
    obtain ⟨q5, hq5, h⟩ := g_bind h
    refine r_callVNi [.int x1] [] q5 (ok_X9_byteAt hq5) q_812 q_794 q_23 q_795 q_144 hd_X9_byteAt (ce_15 D dy _) kc9.1 rfl ⟨Nat.le_of_ble_eq_true rfl, Nat.le_of_ble_eq_true rfl⟩ rfl rfl (Nat.le_of_ble_eq_true rfl) dX7_isDigit_5 ?_
    refine r_istore_n dX7_isDigit_8 rfl (by decide) rfl ?_
    refine r_iload_n 0 dX7_isDigit_9 rfl rfl ?_
    refine r_bipush (v := 48) dX7_isDigit_10 rfl ?_
    refine r_icmp_lt (t := 25) dX7_isDigit_12 (by decide) (fun c => ?_) (fun c => ?_)
    · rw [if_pos c] at h
      refine r_sub [] rfl ?_
      exact w_X7_isDigit_25 _ _ h
    · rw [if_neg c] at h
      refine r_iload_n 0 dX7_isDigit_15 rfl rfl ?_
      refine r_bipush (v := 57) dX7_isDigit_16 rfl ?_
      refine r_icmp_gt (t := 25) dX7_isDigit_18 (by decide) (fun c => ?_) (fun c => ?_)
      · rw [if_pos c] at h
        refine r_sub [] rfl ?_
        exact w_X7_isDigit_25 _ _ h
      · rw [if_neg c] at h
        refine r_iconst (v := 1) dX7_isDigit_21 rfl ?_
        refine r_goto (t := 26) dX7_isDigit_22 (by decide) ?_
        refine r_sub [] rfl ?_
        exact w_X7_isDigit_26 _ _ _ h
theorem ok_X7_isDigit {D : k_D} {dy : Nat → Nat} {x1 : Int32} {S : St} {out : Int32 × St} (h : f_X7_isDigit x1 S = some out) : Sp yX7_isDigit cX7_isDigit 3 (some .boolean) (k_rm 1) D dy S [.ref (D.2.2 23), .int x1] (k_Pi dy out) := Sp.of (by decide +kernel) (Nat.le_of_ble_eq_true rfl) (w_X7_isDigit_0 _ S out h)
noncomputable def f_X7_step_229 (S : St) : Option (St) := some S
noncomputable def f_X7_step_148 : Nat → St → Option (St)
  | 0, _ => none
  | n + 1, S => if (400 : Int32) ≤ (gI S 16) then f_X7_step_229 S else (f_X7_isDigit (gI S 16) S).bind fun q163 => if q163.1 = 0 then f_X7_step_229 q163.2 else (f_X9_byteAt (gI q163.2 16) q163.2).bind fun q185 => k_let (sI q185.2 14 (if (1001 : Int32) < ((((gI q163.2 14) * (10 : Int32)) + q185.1) - (48 : Int32)) then (1001 : Int32) else ((((gI q163.2 14) * (10 : Int32)) + q185.1) - (48 : Int32)))) fun S1 => k_let (sI S1 16 ((gI S1 16) + (1 : Int32))) fun S2 => f_X7_step_148 n S2
noncomputable def f_X7_step_98 : Nat → St → Option (St)
  | 0, _ => none
  | n + 1, S => if (400 : Int32) ≤ (gI S 16) then f_X7_step_229 S else (f_X7_isLetter (gI S 16) S).bind fun q113 => if q113.1 = 0 then f_X7_step_229 q113.2 else k_let (sI q113.2 16 ((gI q113.2 16) + (1 : Int32))) fun S1 => f_X7_step_98 n S1
noncomputable def f_X7_step_47 (S : St) : Option (St) := k_let (sI S 16 (gI S 15)) fun S1 => k_let (sI S1 14 (0 : Int32)) fun S2 => if (gI S2 15) < (gI S2 8) then (f_X7_isLetter (gI S2 16) S2).bind fun q87 => if q87.1 = 0 then (f_X7_isDigit (gI q87.2 16) q87.2).bind fun q137 => if q137.1 = 0 then k_let (sI q137.2 13 (3 : Int32)) fun S3 => k_let (sI S3 16 ((gI S3 16) + (1 : Int32))) fun S4 => f_X7_step_229 S4 else k_let (sI q137.2 13 (2 : Int32)) fun S5 => f_X7_step_148 FU S5 else k_let (sI q87.2 13 (1 : Int32)) fun S6 => f_X7_step_98 FU S6 else k_let (sI S2 13 (0 : Int32)) fun S7 => f_X7_step_229 S7
noncomputable def f_X7_step_8 : Nat → St → Option (St)
  | 0, _ => none
  | n + 1, S => if (400 : Int32) ≤ (gI S 15) then f_X7_step_47 S else (f_X9_byteAt (gI S 15) S).bind fun q26 => if q26.1 = (32 : Int32) then k_let (sI q26.2 15 ((gI q26.2 15) + (1 : Int32))) fun S1 => f_X7_step_8 n S1 else f_X7_step_47 q26.2
noncomputable def f_X7_step (S : St) : Option (St) := k_let (sI S 15 (gI S 16)) fun S1 => f_X7_step_8 FU S1
set_option maxRecDepth 100000 in
set_option maxHeartbeats 4000000 in
theorem w_X7_step_229 {D : k_D} {dy : Nat → Nat} (S : St) (out : St) (h : f_X7_step_229 S = some out) : Rn yX7_step cX7_step 1 none (k_rm 2) 0 0 D dy S (k_Pv dy out) 229 [] [] := by
    unfold f_X7_step_229 at h
    exact r_vret rfl dX7_step_229 ⟨rfl, rfl, Option.some.inj h⟩
set_option maxRecDepth 100000 in
set_option maxHeartbeats 4000000 in
theorem w_X7_step_148 {D : k_D} {dy : Nat → Nat} : ∀ (n : Nat) (S : St) (out : St), f_X7_step_148 n S = some out → Rn yX7_step cX7_step 1 none (k_rm 2) 0 0 D dy S (k_Pv dy out) 148 [(0, .ref (D.2.2 23))] [] := by
  intro n
  induction n with
  | zero => intro S out h; cases h
  | succ n ih =>
    intro S out h
    rw [f_X7_step_148] at h
    refine r_aload_n 0 dX7_step_148 rfl rfl ?_
    refine gf_23_8 q_343 dX7_step_149 ?_
    refine r_sipush (v := 400) dX7_step_152 rfl ?_
    refine r_icmp_ge (t := 229) dX7_step_155 (by decide) (fun c => ?_) (fun c => ?_)
    · rw [if_pos c] at h
      refine r_sub [] rfl ?_
      exact w_X7_step_229 _ _ h
    · rw [if_neg c] at h
      refine r_aload_n 0 dX7_step_158 rfl rfl ?_
      refine r_aload_n 0 dX7_step_159 rfl rfl ?_
      refine gf_23_8 q_343 dX7_step_160 ?_
      obtain ⟨q163, hq163, h⟩ := g_bind h
      refine r_callVi [.int (gI S 16)] [] q163 (ok_X7_isDigit hq163) q_817 q_819 q_27 q_820 q_145 hd_X7_isDigit (ce_23 D dy _) kc7.1 rfl ⟨Nat.le_of_ble_eq_true rfl, Nat.le_of_ble_eq_true rfl⟩ rfl rfl (Nat.le_of_ble_eq_true rfl) dX7_step_163 ?_
      refine r_if_eq (t := 229) dX7_step_166 (by decide) (fun c => ?_) (fun c => ?_)
      · rw [if_pos c] at h
        refine r_sub [] rfl ?_
        exact w_X7_step_229 _ _ h
      · rw [if_neg c] at h
        refine r_aload_n 0 dX7_step_169 rfl rfl ?_
        refine r_aload_n 0 dX7_step_170 rfl rfl ?_
        refine gf_23_6 q_340 dX7_step_171 ?_
        refine r_bipush (v := 10) dX7_step_174 rfl ?_
        refine r_imul dX7_step_176 ?_
        refine r_aload_n 0 dX7_step_177 rfl rfl ?_
        refine gf_23_0 q_334 dX7_step_178 ?_
        refine r_aload_n 0 dX7_step_181 rfl rfl ?_
        refine gf_23_8 q_343 dX7_step_182 ?_
        obtain ⟨q185, hq185, h⟩ := g_bind h
        refine r_callVNi [.int (gI q163.2 16)] [.int ((gI q163.2 14) * (10 : Int32)), .ref (D.2.2 23)] q185 (ok_X9_byteAt hq185) q_812 q_794 q_23 q_795 q_144 hd_X9_byteAt (ce_15 D dy _) kc9.1 rfl ⟨Nat.le_of_ble_eq_true rfl, Nat.le_of_ble_eq_true rfl⟩ rfl rfl (Nat.le_of_ble_eq_true rfl) dX7_step_185 ?_
        refine r_iadd dX7_step_188 ?_
        refine r_bipush (v := 48) dX7_step_189 rfl ?_
        refine r_isub dX7_step_191 ?_
        refine r_sipush (v := 1001) dX7_step_192 rfl ?_
        refine r_min q_821 q_745 q_155 q_746 ⟨Nat.le_of_ble_eq_true rfl, Nat.le_of_ble_eq_true rfl⟩ dX7_step_195 ?_
        refine pf_23_6 q_340 dX7_step_198 ?_
        generalize sI q185.2 14 (if (1001 : Int32) < ((((gI q163.2 14) * (10 : Int32)) + q185.1) - (48 : Int32)) then (1001 : Int32) else ((((gI q163.2 14) * (10 : Int32)) + q185.1) - (48 : Int32))) = S1 at h ⊢
        replace h := g_let h
        refine r_aload_n 0 dX7_step_201 rfl rfl ?_
        refine r_dup dX7_step_202 rfl ?_
        refine gf_23_8 q_343 dX7_step_203 ?_
        refine r_iconst (v := 1) dX7_step_206 rfl ?_
        refine r_iadd dX7_step_207 ?_
        refine pf_23_8 q_343 dX7_step_208 ?_
        generalize sI S1 16 ((gI S1 16) + (1 : Int32)) = S2 at h ⊢
        replace h := g_let h
        refine r_goto (t := 148) dX7_step_211 (by decide) ?_
        exact ih _ _ h
set_option maxRecDepth 100000 in
set_option maxHeartbeats 4000000 in
theorem w_X7_step_98 {D : k_D} {dy : Nat → Nat} : ∀ (n : Nat) (S : St) (out : St), f_X7_step_98 n S = some out → Rn yX7_step cX7_step 1 none (k_rm 2) 0 0 D dy S (k_Pv dy out) 98 [(0, .ref (D.2.2 23))] [] := by
  intro n
  induction n with
  | zero => intro S out h; cases h
  | succ n ih =>
    intro S out h
    rw [f_X7_step_98] at h
    refine r_aload_n 0 dX7_step_98 rfl rfl ?_
    refine gf_23_8 q_343 dX7_step_99 ?_
    refine r_sipush (v := 400) dX7_step_102 rfl ?_
    refine r_icmp_ge (t := 229) dX7_step_105 (by decide) (fun c => ?_) (fun c => ?_)
    · rw [if_pos c] at h
      refine r_sub [] rfl ?_
      exact w_X7_step_229 _ _ h
    · rw [if_neg c] at h
      refine r_aload_n 0 dX7_step_108 rfl rfl ?_
      refine r_aload_n 0 dX7_step_109 rfl rfl ?_
      refine gf_23_8 q_343 dX7_step_110 ?_
      obtain ⟨q113, hq113, h⟩ := g_bind h
      refine r_callVi [.int (gI S 16)] [] q113 (ok_X7_isLetter hq113) q_813 q_815 q_26 q_816 q_145 hd_X7_isLetter (ce_23 D dy _) kc7.1 rfl ⟨Nat.le_of_ble_eq_true rfl, Nat.le_of_ble_eq_true rfl⟩ rfl rfl (Nat.le_of_ble_eq_true rfl) dX7_step_113 ?_
      refine r_if_eq (t := 229) dX7_step_116 (by decide) (fun c => ?_) (fun c => ?_)
      · rw [if_pos c] at h
        refine r_sub [] rfl ?_
        exact w_X7_step_229 _ _ h
      · rw [if_neg c] at h
        refine r_aload_n 0 dX7_step_119 rfl rfl ?_
        refine r_dup dX7_step_120 rfl ?_
        refine gf_23_8 q_343 dX7_step_121 ?_
        refine r_iconst (v := 1) dX7_step_124 rfl ?_
        refine r_iadd dX7_step_125 ?_
        refine pf_23_8 q_343 dX7_step_126 ?_
        generalize sI q113.2 16 ((gI q113.2 16) + (1 : Int32)) = S1 at h ⊢
        replace h := g_let h
        refine r_goto (t := 98) dX7_step_129 (by decide) ?_
        exact ih _ _ h
set_option maxRecDepth 100000 in
set_option maxHeartbeats 4000000 in
theorem w_X7_step_47 {D : k_D} {dy : Nat → Nat} (S : St) (out : St) (h : f_X7_step_47 S = some out) : Rn yX7_step cX7_step 1 none (k_rm 2) 0 0 D dy S (k_Pv dy out) 47 [(0, .ref (D.2.2 23))] [] := by
    unfold f_X7_step_47 at h
    refine r_aload_n 0 dX7_step_47 rfl rfl ?_
    refine r_aload_n 0 dX7_step_48 rfl rfl ?_
    refine gf_23_7 q_341 dX7_step_49 ?_
    refine pf_23_8 q_343 dX7_step_52 ?_
    generalize sI S 16 (gI S 15) = S1 at h ⊢
    replace h := g_let h
    refine r_aload_n 0 dX7_step_55 rfl rfl ?_
    refine r_iconst (v := 0) dX7_step_56 rfl ?_
    refine pf_23_6 q_340 dX7_step_57 ?_
    generalize sI S1 14 (0 : Int32) = S2 at h ⊢
    replace h := g_let h
    refine r_aload_n 0 dX7_step_60 rfl rfl ?_
    refine gf_23_7 q_341 dX7_step_61 ?_
    refine r_aload_n 0 dX7_step_64 rfl rfl ?_
    refine gf_23_0 q_334 dX7_step_65 ?_
    refine gfN_15_1 q_321 dX7_step_68 ?_
    refine r_icmp_lt (t := 82) dX7_step_71 (by decide) (fun c => ?_) (fun c => ?_)
    · rw [if_pos c] at h
      refine r_aload_n 0 dX7_step_82 rfl rfl ?_
      refine r_aload_n 0 dX7_step_83 rfl rfl ?_
      refine gf_23_8 q_343 dX7_step_84 ?_
      obtain ⟨q87, hq87, h⟩ := g_bind h
      refine r_callVi [.int (gI S2 16)] [] q87 (ok_X7_isLetter hq87) q_813 q_815 q_26 q_816 q_145 hd_X7_isLetter (ce_23 D dy _) kc7.1 rfl ⟨Nat.le_of_ble_eq_true rfl, Nat.le_of_ble_eq_true rfl⟩ rfl rfl (Nat.le_of_ble_eq_true rfl) dX7_step_87 ?_
      refine r_if_eq (t := 132) dX7_step_90 (by decide) (fun c => ?_) (fun c => ?_)
      · rw [if_pos c] at h
        refine r_aload_n 0 dX7_step_132 rfl rfl ?_
        refine r_aload_n 0 dX7_step_133 rfl rfl ?_
        refine gf_23_8 q_343 dX7_step_134 ?_
        obtain ⟨q137, hq137, h⟩ := g_bind h
        refine r_callVi [.int (gI q87.2 16)] [] q137 (ok_X7_isDigit hq137) q_817 q_819 q_27 q_820 q_145 hd_X7_isDigit (ce_23 D dy _) kc7.1 rfl ⟨Nat.le_of_ble_eq_true rfl, Nat.le_of_ble_eq_true rfl⟩ rfl rfl (Nat.le_of_ble_eq_true rfl) dX7_step_137 ?_
        refine r_if_eq (t := 214) dX7_step_140 (by decide) (fun c => ?_) (fun c => ?_)
        · rw [if_pos c] at h
          refine r_aload_n 0 dX7_step_214 rfl rfl ?_
          refine r_iconst (v := 3) dX7_step_215 rfl ?_
          refine pf_23_5 q_339 dX7_step_216 ?_
          generalize sI q137.2 13 (3 : Int32) = S3 at h ⊢
          replace h := g_let h
          refine r_aload_n 0 dX7_step_219 rfl rfl ?_
          refine r_dup dX7_step_220 rfl ?_
          refine gf_23_8 q_343 dX7_step_221 ?_
          refine r_iconst (v := 1) dX7_step_224 rfl ?_
          refine r_iadd dX7_step_225 ?_
          refine pf_23_8 q_343 dX7_step_226 ?_
          generalize sI S3 16 ((gI S3 16) + (1 : Int32)) = S4 at h ⊢
          replace h := g_let h
          refine r_sub [] rfl ?_
          exact w_X7_step_229 _ _ h
        · rw [if_neg c] at h
          refine r_aload_n 0 dX7_step_143 rfl rfl ?_
          refine r_iconst (v := 2) dX7_step_144 rfl ?_
          refine pf_23_5 q_339 dX7_step_145 ?_
          generalize sI q137.2 13 (2 : Int32) = S5 at h ⊢
          replace h := g_let h
          exact w_X7_step_148 _ _ _ h
      · rw [if_neg c] at h
        refine r_aload_n 0 dX7_step_93 rfl rfl ?_
        refine r_iconst (v := 1) dX7_step_94 rfl ?_
        refine pf_23_5 q_339 dX7_step_95 ?_
        generalize sI q87.2 13 (1 : Int32) = S6 at h ⊢
        replace h := g_let h
        exact w_X7_step_98 _ _ _ h
    · rw [if_neg c] at h
      refine r_aload_n 0 dX7_step_74 rfl rfl ?_
      refine r_iconst (v := 0) dX7_step_75 rfl ?_
      refine pf_23_5 q_339 dX7_step_76 ?_
      generalize sI S2 13 (0 : Int32) = S7 at h ⊢
      replace h := g_let h
      refine r_goto (t := 229) dX7_step_79 (by decide) ?_
      refine r_sub [] rfl ?_
      exact w_X7_step_229 _ _ h
set_option maxRecDepth 100000 in
set_option maxHeartbeats 4000000 in
theorem w_X7_step_8 {D : k_D} {dy : Nat → Nat} : ∀ (n : Nat) (S : St) (out : St), f_X7_step_8 n S = some out → Rn yX7_step cX7_step 1 none (k_rm 2) 0 0 D dy S (k_Pv dy out) 8 [(0, .ref (D.2.2 23))] [] := by
  intro n
  induction n with
  | zero => intro S out h; cases h
  | succ n ih =>
    intro S out h
    rw [f_X7_step_8] at h
    refine r_aload_n 0 dX7_step_8 rfl rfl ?_
    refine gf_23_7 q_341 dX7_step_9 ?_
    refine r_sipush (v := 400) dX7_step_12 rfl ?_
    refine r_icmp_ge (t := 47) dX7_step_15 (by decide) (fun c => ?_) (fun c => ?_)
    · rw [if_pos c] at h
      exact w_X7_step_47 _ _ h
    · rw [if_neg c] at h
      refine r_aload_n 0 dX7_step_18 rfl rfl ?_
      refine gf_23_0 q_334 dX7_step_19 ?_
      refine r_aload_n 0 dX7_step_22 rfl rfl ?_
      refine gf_23_7 q_341 dX7_step_23 ?_
      obtain ⟨q26, hq26, h⟩ := g_bind h
      refine r_callVNi [.int (gI S 15)] [] q26 (ok_X9_byteAt hq26) q_812 q_794 q_23 q_795 q_144 hd_X9_byteAt (ce_15 D dy _) kc9.1 rfl ⟨Nat.le_of_ble_eq_true rfl, Nat.le_of_ble_eq_true rfl⟩ rfl rfl (Nat.le_of_ble_eq_true rfl) dX7_step_26 ?_
      refine r_bipush (v := 32) dX7_step_29 rfl ?_
      refine r_icmp_ne (t := 47) dX7_step_31 (by decide) (fun c => ?_) (fun c => ?_)
      · rw [if_neg c] at h
        exact w_X7_step_47 _ _ h
      · rw [if_pos c] at h
        refine r_aload_n 0 dX7_step_34 rfl rfl ?_
        refine r_dup dX7_step_35 rfl ?_
        refine gf_23_7 q_341 dX7_step_36 ?_
        refine r_iconst (v := 1) dX7_step_39 rfl ?_
        refine r_iadd dX7_step_40 ?_
        refine pf_23_7 q_341 dX7_step_41 ?_
        generalize sI q26.2 15 ((gI q26.2 15) + (1 : Int32)) = S1 at h ⊢
        replace h := g_let h
        refine r_goto (t := 8) dX7_step_44 (by decide) ?_
        exact ih _ _ h
set_option maxRecDepth 100000 in
set_option maxHeartbeats 4000000 in
theorem w_X7_step_0 {D : k_D} {dy : Nat → Nat} (S : St) (out : St) (h : f_X7_step S = some out) : Rn yX7_step cX7_step 1 none (k_rm 2) 0 0 D dy S (k_Pv dy out) 0 [(0, .ref (D.2.2 23))] [] := by
    unfold f_X7_step at h
    refine r_aload_n 0 dX7_step_0 rfl rfl ?_
    refine r_aload_n 0 dX7_step_1 rfl rfl ?_
    refine gf_23_8 q_343 dX7_step_2 ?_
    refine pf_23_7 q_341 dX7_step_5 ?_
    generalize sI S 15 (gI S 16) = S1 at h ⊢
    replace h := g_let h
    exact w_X7_step_8 _ _ _ h
theorem ok_X7_step {D : k_D} {dy : Nat → Nat} {S : St} {out : St} (h : f_X7_step S = some out) : Sp yX7_step cX7_step 1 none (k_rm 2) D dy S [.ref (D.2.2 23)] (k_Pv dy out) := Sp.of (by decide +kernel) (Nat.le_of_ble_eq_true rfl) (w_X7_step_0 S out h)
noncomputable def f_X7_seesSign_28 (s0 : Int32) (S : St) : Option (Int32 × St) := if s0 = 0 ∨ s0 = 1 then some (s0, S) else none
noncomputable def f_X7_seesSign_27 (S : St) : Option (Int32 × St) := f_X7_seesSign_28 (0 : Int32) S
noncomputable def f_X7_seesSign (x1 : Int32) (S : St) : Option (Int32 × St) := if (gI S 13) = (3 : Int32) then (f_X9_byteAt (gI S 15) S).bind fun q16 => if q16.1 = x1 then f_X7_seesSign_28 (1 : Int32) q16.2 else f_X7_seesSign_27 q16.2 else f_X7_seesSign_27 S
set_option maxRecDepth 100000 in
set_option maxHeartbeats 4000000 in
theorem w_X7_seesSign_28 {D : k_D} {dy : Nat → Nat} (s0 : Int32) (S : St) (out : Int32 × St) (h : f_X7_seesSign_28 s0 S = some out) : Rn yX7_seesSign cX7_seesSign 2 (some .boolean) (k_rm 1) 0 0 D dy S (k_Pi dy out) 28 [] [.int s0] := by
    unfold f_X7_seesSign_28 at h
    obtain ⟨c, h⟩ := g_ite h
    cases h
    exact r_zret rfl (k_zn c) dX7_seesSign_28 ⟨rfl, rfl, rfl⟩
set_option maxRecDepth 100000 in
set_option maxHeartbeats 4000000 in
theorem w_X7_seesSign_27 {D : k_D} {dy : Nat → Nat} (S : St) (out : Int32 × St) (h : f_X7_seesSign_27 S = some out) : Rn yX7_seesSign cX7_seesSign 2 (some .boolean) (k_rm 1) 0 0 D dy S (k_Pi dy out) 27 [] [] := by
    unfold f_X7_seesSign_27 at h
    refine r_iconst (v := 0) dX7_seesSign_27 rfl ?_
    exact w_X7_seesSign_28 _ _ _ h
set_option maxRecDepth 100000 in
set_option maxHeartbeats 4000000 in
theorem w_X7_seesSign_0 {D : k_D} {dy : Nat → Nat} (x1 : Int32) (S : St) (out : Int32 × St) (h : f_X7_seesSign x1 S = some out) : Rn yX7_seesSign cX7_seesSign 2 (some .boolean) (k_rm 1) 0 0 D dy S (k_Pi dy out) 0 [(0, .ref (D.2.2 23)), (1, .int x1)] [] := by
    unfold f_X7_seesSign at h
    refine r_aload_n 0 dX7_seesSign_0 rfl rfl ?_
    refine gf_23_5 q_339 dX7_seesSign_1 ?_
    refine r_iconst (v := 3) dX7_seesSign_4 rfl ?_
    refine r_icmp_ne (t := 27) dX7_seesSign_5 (by decide) (fun c => ?_) (fun c => ?_)
    · rw [if_neg c] at h
      refine r_sub [] rfl ?_
      exact w_X7_seesSign_27 _ _ h
    · rw [if_pos c] at h
      refine r_aload_n 0 dX7_seesSign_8 rfl rfl ?_
      refine gf_23_0 q_334 dX7_seesSign_9 ?_
      refine r_aload_n 0 dX7_seesSign_12 rfl rfl ?_
      refine gf_23_7 q_341 dX7_seesSign_13 ?_
      obtain ⟨q16, hq16, h⟩ := g_bind h
      refine r_callVNi [.int (gI S 15)] [] q16 (ok_X9_byteAt hq16) q_812 q_794 q_23 q_795 q_144 hd_X9_byteAt (ce_15 D dy _) kc9.1 rfl ⟨Nat.le_of_ble_eq_true rfl, Nat.le_of_ble_eq_true rfl⟩ rfl rfl (Nat.le_of_ble_eq_true rfl) dX7_seesSign_16 ?_
      refine r_iload_n 1 dX7_seesSign_19 rfl rfl ?_
      refine r_icmp_ne (t := 27) dX7_seesSign_20 (by decide) (fun c => ?_) (fun c => ?_)
      · rw [if_neg c] at h
        refine r_sub [] rfl ?_
        exact w_X7_seesSign_27 _ _ h
      · rw [if_pos c] at h
        refine r_iconst (v := 1) dX7_seesSign_23 rfl ?_
        refine r_goto (t := 28) dX7_seesSign_24 (by decide) ?_
        refine r_sub [] rfl ?_
        exact w_X7_seesSign_28 _ _ _ h
theorem ok_X7_seesSign {D : k_D} {dy : Nat → Nat} {x1 : Int32} {S : St} {out : Int32 × St} (h : f_X7_seesSign x1 S = some out) : Sp yX7_seesSign cX7_seesSign 2 (some .boolean) (k_rm 1) D dy S [.ref (D.2.2 23), .int x1] (k_Pi dy out) := Sp.of (by decide +kernel) (Nat.le_of_ble_eq_true rfl) (w_X7_seesSign_0 _ S out h)
noncomputable def f_X7_put_49 (x3 : Int32) (S : St) : Option (Int32 × St) := some (x3, S)
noncomputable def f_X7_put (x1 : Int32) (x2 : Int32) (S : St) : Option (Int32 × St) := if (800 : Int32) ≤ ((gI S 10) + (1 : Int32)) then f_X7_put_49 (gI S 10) S else if k_b (gI S 10) 800 = true then k_let (sA S 24 (gI S 10).toNatClampNeg x1) fun S2 => if k_b ((gI S2 10) + (1 : Int32)) 800 = true then k_let (sA S2 24 ((gI S2 10) + (1 : Int32)).toNatClampNeg x2) fun S4 => k_let (sI S4 10 ((gI S4 10) + (2 : Int32))) fun S5 => f_X7_put_49 (gI S 10) S5 else none else none
set_option maxRecDepth 100000 in
set_option maxHeartbeats 4000000 in
theorem w_X7_put_49 {D : k_D} {dy : Nat → Nat} (x3 : Int32) (S : St) (out : Int32 × St) (h : f_X7_put_49 x3 S = some out) : Rn yX7_put cX7_put 4 (some .int) (k_rm 0) 0 0 D dy S (k_Pi dy out) 49 [(3, .int x3)] [] := by
    unfold f_X7_put_49 at h
    refine r_iload_n 0 dX7_put_49 rfl rfl ?_
    cases h
    exact r_iret rfl dX7_put_50 ⟨rfl, rfl, rfl⟩
set_option maxRecDepth 100000 in
set_option maxHeartbeats 4000000 in
theorem w_X7_put_0 {D : k_D} {dy : Nat → Nat} (x1 : Int32) (x2 : Int32) (S : St) (out : Int32 × St) (h : f_X7_put x1 x2 S = some out) : Rn yX7_put cX7_put 4 (some .int) (k_rm 0) 0 0 D dy S (k_Pi dy out) 0 [(0, .ref (D.2.2 23)), (1, .int x1), (2, .int x2)] [] := by
    unfold f_X7_put at h
    refine r_aload_n 0 dX7_put_0 rfl rfl ?_
    refine gf_23_2 q_336 dX7_put_1 ?_
    refine r_istore_n dX7_put_4 rfl (by decide) rfl ?_
    refine r_aload_n 1 dX7_put_5 rfl rfl ?_
    refine gf_23_2 q_336 dX7_put_6 ?_
    refine r_iconst (v := 1) dX7_put_9 rfl ?_
    refine r_iadd dX7_put_10 ?_
    refine r_sipush (v := 800) dX7_put_11 rfl ?_
    refine r_icmp_ge (t := 49) dX7_put_14 (by decide) (fun c => ?_) (fun c => ?_)
    · rw [if_pos c] at h
      refine r_sub [0] rfl ?_
      exact w_X7_put_49 _ _ _ h
    · rw [if_neg c] at h
      refine r_aload_n 1 dX7_put_17 rfl rfl ?_
      refine gf_23_1 q_335 dX7_put_18 ?_
      refine r_aload_n 1 dX7_put_21 rfl rfl ?_
      refine gf_23_2 q_336 dX7_put_22 ?_
      refine r_iload_n 2 dX7_put_25 rfl rfl ?_
      obtain ⟨c1, h⟩ := g_ite h
      refine as_24 (k_b_in c1) dX7_put_26 ?_
      generalize sA S 24 (gI S 10).toNatClampNeg x1 = S2 at h ⊢
      replace h := g_let h
      refine r_aload_n 1 dX7_put_27 rfl rfl ?_
      refine gf_23_1 q_335 dX7_put_28 ?_
      refine r_aload_n 1 dX7_put_31 rfl rfl ?_
      refine gf_23_2 q_336 dX7_put_32 ?_
      refine r_iconst (v := 1) dX7_put_35 rfl ?_
      refine r_iadd dX7_put_36 ?_
      refine r_iload_n 3 dX7_put_37 rfl rfl ?_
      obtain ⟨c3, h⟩ := g_ite h
      refine as_24 (k_b_in c3) dX7_put_38 ?_
      generalize sA S2 24 ((gI S2 10) + (1 : Int32)).toNatClampNeg x2 = S4 at h ⊢
      replace h := g_let h
      refine r_aload_n 1 dX7_put_39 rfl rfl ?_
      refine r_dup dX7_put_40 rfl ?_
      refine gf_23_2 q_336 dX7_put_41 ?_
      refine r_iconst (v := 2) dX7_put_44 rfl ?_
      refine r_iadd dX7_put_45 ?_
      refine pf_23_2 q_336 dX7_put_46 ?_
      generalize sI S4 10 ((gI S4 10) + (2 : Int32)) = S5 at h ⊢
      replace h := g_let h
      refine r_sub [0] rfl ?_
      exact w_X7_put_49 _ _ _ h
theorem ok_X7_put {D : k_D} {dy : Nat → Nat} {x1 : Int32} {x2 : Int32} {S : St} {out : Int32 × St} (h : f_X7_put x1 x2 S = some out) : Sp yX7_put cX7_put 4 (some .int) (k_rm 0) D dy S [.ref (D.2.2 23), .int x1, .int x2] (k_Pi dy out) := Sp.of (by decide +kernel) (Nat.le_of_ble_eq_true rfl) (w_X7_put_0 _ _ S out h)
noncomputable def f_X7_leadHere_25 (S : St) : Option (St) := some S
noncomputable def f_X7_leadHere (x1 : Int32) (S : St) : Option (St) := if x1 < 0 then f_X7_leadHere_25 S else if (800 : Int32) ≤ (x1 + (1 : Int32)) then f_X7_leadHere_25 S else if k_b (x1 + (1 : Int32)) 800 = true then k_let (sA S 24 (x1 + (1 : Int32)).toNatClampNeg (gI S 10)) fun S2 => f_X7_leadHere_25 S2 else none
set_option maxRecDepth 100000 in
set_option maxHeartbeats 4000000 in
theorem w_X7_leadHere_25 {D : k_D} {dy : Nat → Nat} (S : St) (out : St) (h : f_X7_leadHere_25 S = some out) : Rn yX7_leadHere cX7_leadHere 2 none (k_rm 0) 0 0 D dy S (k_Pv dy out) 25 [] [] := by
    unfold f_X7_leadHere_25 at h
    exact r_vret rfl dX7_leadHere_25 ⟨rfl, rfl, Option.some.inj h⟩
set_option maxRecDepth 100000 in
set_option maxHeartbeats 4000000 in
theorem w_X7_leadHere_0 {D : k_D} {dy : Nat → Nat} (x1 : Int32) (S : St) (out : St) (h : f_X7_leadHere x1 S = some out) : Rn yX7_leadHere cX7_leadHere 2 none (k_rm 0) 0 0 D dy S (k_Pv dy out) 0 [(0, .ref (D.2.2 23)), (1, .int x1)] [] := by
    unfold f_X7_leadHere at h
    refine r_iload_n 1 dX7_leadHere_0 rfl rfl ?_
    refine r_if_lt (t := 25) dX7_leadHere_1 (by decide) (fun c => ?_) (fun c => ?_)
    · rw [if_pos c] at h
      refine r_sub [] rfl ?_
      exact w_X7_leadHere_25 _ _ h
    · rw [if_neg c] at h
      refine r_iload_n 1 dX7_leadHere_4 rfl rfl ?_
      refine r_iconst (v := 1) dX7_leadHere_5 rfl ?_
      refine r_iadd dX7_leadHere_6 ?_
      refine r_sipush (v := 800) dX7_leadHere_7 rfl ?_
      refine r_icmp_ge (t := 25) dX7_leadHere_10 (by decide) (fun c => ?_) (fun c => ?_)
      · rw [if_pos c] at h
        refine r_sub [] rfl ?_
        exact w_X7_leadHere_25 _ _ h
      · rw [if_neg c] at h
        refine r_aload_n 0 dX7_leadHere_13 rfl rfl ?_
        refine gf_23_1 q_335 dX7_leadHere_14 ?_
        refine r_iload_n 1 dX7_leadHere_17 rfl rfl ?_
        refine r_iconst (v := 1) dX7_leadHere_18 rfl ?_
        refine r_iadd dX7_leadHere_19 ?_
        refine r_aload_n 0 dX7_leadHere_20 rfl rfl ?_
        refine gf_23_2 q_336 dX7_leadHere_21 ?_
        obtain ⟨c1, h⟩ := g_ite h
        refine as_24 (k_b_in c1) dX7_leadHere_24 ?_
        generalize sA S 24 (x1 + (1 : Int32)).toNatClampNeg (gI S 10) = S2 at h ⊢
        replace h := g_let h
        refine r_sub [] rfl ?_
        exact w_X7_leadHere_25 _ _ h
theorem ok_X7_leadHere {D : k_D} {dy : Nat → Nat} {x1 : Int32} {S : St} {out : St} (h : f_X7_leadHere x1 S = some out) : Sp yX7_leadHere cX7_leadHere 2 none (k_rm 0) D dy S [.ref (D.2.2 23), .int x1] (k_Pv dy out) := Sp.of (by decide +kernel) (Nat.le_of_ble_eq_true rfl) (w_X7_leadHere_0 _ S out h)
noncomputable def f_J7_fill_53178_a30_5 : Nat → Int32 → Int32 → Int32 → St → Option (St)
  | 0, _, _, _, _ => none
  | n + 1, x1, x2, x3, S => if x3 ≤ x2 then some S else if k_b x2 8 = true then k_let (sA S 30 x2.toNatClampNeg x1) fun S2 => f_J7_fill_53178_a30_5 n x1 (x2 + (1 : Int32)) x3 S2 else none
noncomputable def f_J7_fill_53178_a30 (x1 : Int32) (S : St) : Option (St) := f_J7_fill_53178_a30_5 FU x1 (0 : Int32) (8 : Int32) S
set_option maxRecDepth 100000 in
set_option maxHeartbeats 4000000 in
theorem w_J7_fill_53178_a30_5 {D : k_D} {dy : Nat → Nat} : ∀ (n : Nat) (x1 : Int32) (x2 : Int32) (x3 : Int32) (S : St) (out : St), f_J7_fill_53178_a30_5 n x1 x2 x3 S = some out → Rn yJ7_fill_53178 cJ7_fill_53178 4 none (k_rm 0) 0 0 D dy S (k_Pv dy out) 5 [(0, .ref (D.2.2 30)), (1, .int x1), (2, .int x2), (3, .int x3)] [] := by
  intro n
  induction n with
  | zero => intro x1 x2 x3 S out h; cases h
  | succ n ih =>
    intro x1 x2 x3 S out h
    rw [f_J7_fill_53178_a30_5] at h
    refine r_iload_n 2 dJ7_fill_53178_5 rfl rfl ?_
    refine r_iload_n 3 dJ7_fill_53178_6 rfl rfl ?_
    refine r_icmp_ge (t := 20) dJ7_fill_53178_7 (by decide) (fun c => ?_) (fun c => ?_)
    · rw [if_pos c] at h
      exact r_vret rfl dJ7_fill_53178_20 ⟨rfl, rfl, Option.some.inj h⟩
    · rw [if_neg c] at h
      refine r_aload_n 0 dJ7_fill_53178_10 rfl rfl ?_
      refine r_iload_n 2 dJ7_fill_53178_11 rfl rfl ?_
      refine r_iload_n 1 dJ7_fill_53178_12 rfl rfl ?_
      obtain ⟨c1, h⟩ := g_ite h
      refine as_30 (k_b_in c1) dJ7_fill_53178_13 ?_
      generalize sA S 30 x2.toNatClampNeg x1 = S2 at h ⊢
      replace h := g_let h
      refine r_iinc (q := 2) (v := x2 + (1 : Int32)) dJ7_fill_53178_14 rfl rfl (by decide) rfl ?_
      refine r_goto (t := 5) dJ7_fill_53178_17 (by decide) ?_
      refine r_sub [1, 2, 0, 3] rfl ?_
      exact ih _ _ _ _ _ h
set_option maxRecDepth 100000 in
set_option maxHeartbeats 4000000 in
theorem w_J7_fill_53178_a30_0 {D : k_D} {dy : Nat → Nat} (x1 : Int32) (S : St) (out : St) (h : f_J7_fill_53178_a30 x1 S = some out) : Rn yJ7_fill_53178 cJ7_fill_53178 4 none (k_rm 0) 0 0 D dy S (k_Pv dy out) 0 [(0, .ref (D.2.2 30)), (1, .int x1)] [] := by
    unfold f_J7_fill_53178_a30 at h
    refine r_iconst (v := 0) dJ7_fill_53178_0 rfl ?_
    refine r_istore_n dJ7_fill_53178_1 rfl (by decide) rfl ?_
    refine r_aload_n 1 dJ7_fill_53178_2 rfl rfl ?_
    refine ln_30 dJ7_fill_53178_3 ?_
    refine r_istore_n dJ7_fill_53178_4 rfl (by decide) rfl ?_
    refine r_sub [2, 3, 1, 0] rfl ?_
    exact w_J7_fill_53178_a30_5 _ _ _ _ _ _ h
theorem ok_J7_fill_53178_a30 {D : k_D} {dy : Nat → Nat} {x1 : Int32} {S : St} {out : St} (h : f_J7_fill_53178_a30 x1 S = some out) : Sp yJ7_fill_53178 cJ7_fill_53178 4 none (k_rm 0) D dy S [.ref (D.2.2 30), .int x1] (k_Pv dy out) := Sp.of (by decide +kernel) (Nat.le_of_ble_eq_true rfl) (w_J7_fill_53178_a30_0 _ S out h)
noncomputable def f_X8_counts_44 (s0 : Int32) (S : St) : Option (Int32 × St) := if s0 = 0 ∨ s0 = 1 then some (s0, S) else none
noncomputable def f_X8_counts_43 (S : St) : Option (Int32 × St) := f_X8_counts_44 (0 : Int32) S
noncomputable def f_X8_counts (x1 : Int32) (S : St) : Option (Int32 × St) := (f_X1_has x1 S).bind fun q5 => if q5.1 = 0 then f_X8_counts_43 q5.2 else if k_b x1 16 = true then if (gA q5.2 5 x1.toNatClampNeg) = (gI q5.2 19) then if k_b x1 16 = true then if (gA q5.2 19 x1.toNatClampNeg) = 0 then f_X8_counts_44 (1 : Int32) q5.2 else f_X8_counts_43 q5.2 else none else f_X8_counts_43 q5.2 else none
set_option maxRecDepth 100000 in
set_option maxHeartbeats 4000000 in
theorem w_X8_counts_44 {D : k_D} {dy : Nat → Nat} (s0 : Int32) (S : St) (out : Int32 × St) (h : f_X8_counts_44 s0 S = some out) : Rn yX8_counts cX8_counts 2 (some .boolean) (k_rm 1) 0 0 D dy S (k_Pi dy out) 44 [] [.int s0] := by
    unfold f_X8_counts_44 at h
    obtain ⟨c, h⟩ := g_ite h
    cases h
    exact r_zret rfl (k_zn c) dX8_counts_44 ⟨rfl, rfl, rfl⟩
set_option maxRecDepth 100000 in
set_option maxHeartbeats 4000000 in
theorem w_X8_counts_43 {D : k_D} {dy : Nat → Nat} (S : St) (out : Int32 × St) (h : f_X8_counts_43 S = some out) : Rn yX8_counts cX8_counts 2 (some .boolean) (k_rm 1) 0 0 D dy S (k_Pi dy out) 43 [] [] := by
    unfold f_X8_counts_43 at h
    refine r_iconst (v := 0) dX8_counts_43 rfl ?_
    exact w_X8_counts_44 _ _ _ h
set_option maxRecDepth 100000 in
set_option maxHeartbeats 4000000 in
theorem w_X8_counts_0 {D : k_D} {dy : Nat → Nat} (x1 : Int32) (S : St) (out : Int32 × St) (h : f_X8_counts x1 S = some out) : Rn yX8_counts cX8_counts 2 (some .boolean) (k_rm 1) 0 0 D dy S (k_Pi dy out) 0 [(0, .ref (D.2.2 29)), (1, .int x1)] [] := by
    unfold f_X8_counts at h
    refine r_aload_n 0 dX8_counts_0 rfl rfl ?_
    refine gf_29_0 q_437 dX8_counts_1 ?_
    refine r_iload_n 1 dX8_counts_4 rfl rfl ?_
    obtain ⟨q5, hq5, h⟩ := g_bind h
    refine r_callVNi [.int x1] [] q5 (ok_X1_has hq5) q_1036 q_680 q_5 q_681 q_143 hd_X1_has (ce_2 D dy _) kc1.1 rfl ⟨Nat.le_of_ble_eq_true rfl, Nat.le_of_ble_eq_true rfl⟩ rfl rfl (Nat.le_of_ble_eq_true rfl) dX8_counts_5 ?_
    refine r_if_eq (t := 43) dX8_counts_8 (by decide) (fun c => ?_) (fun c => ?_)
    · rw [if_pos c] at h
      refine r_sub [] rfl ?_
      exact w_X8_counts_43 _ _ h
    · rw [if_neg c] at h
      refine r_aload_n 0 dX8_counts_11 rfl rfl ?_
      refine gf_29_0 q_437 dX8_counts_12 ?_
      refine gfN_2_2 q_197 dX8_counts_15 ?_
      refine r_iload_n 1 dX8_counts_18 rfl rfl ?_
      obtain ⟨c1, h⟩ := g_ite h
      refine al_5 (k_b_in c1) dX8_counts_19 ?_
      refine r_aload_n 0 dX8_counts_20 rfl rfl ?_
      refine gf_29_5 q_444 dX8_counts_21 ?_
      refine r_icmp_ne (t := 43) dX8_counts_24 (by decide) (fun c => ?_) (fun c => ?_)
      · rw [if_neg c] at h
        refine r_sub [] rfl ?_
        exact w_X8_counts_43 _ _ h
      · rw [if_pos c] at h
        refine r_aload_n 0 dX8_counts_27 rfl rfl ?_
        refine gf_29_1 q_438 dX8_counts_28 ?_
        refine gfN_17_3 q_377 dX8_counts_31 ?_
        refine r_iload_n 1 dX8_counts_34 rfl rfl ?_
        obtain ⟨c2, h⟩ := g_ite h
        refine al_19 (k_b_in c2) dX8_counts_35 ?_
        refine r_if_ne (t := 43) dX8_counts_36 (by decide) (fun c => ?_) (fun c => ?_)
        · rw [if_neg c] at h
          refine r_sub [] rfl ?_
          exact w_X8_counts_43 _ _ h
        · rw [if_pos c] at h
          refine r_iconst (v := 1) dX8_counts_39 rfl ?_
          refine r_goto (t := 44) dX8_counts_40 (by decide) ?_
          refine r_sub [] rfl ?_
          exact w_X8_counts_44 _ _ _ h
theorem ok_X8_counts {D : k_D} {dy : Nat → Nat} {x1 : Int32} {S : St} {out : Int32 × St} (h : f_X8_counts x1 S = some out) : Sp yX8_counts cX8_counts 2 (some .boolean) (k_rm 1) D dy S [.ref (D.2.2 29), .int x1] (k_Pi dy out) := Sp.of (by decide +kernel) (Nat.le_of_ble_eq_true rfl) (w_X8_counts_0 _ S out h)
noncomputable def f_X8_lowestOf_2 : Nat → Int32 → Int32 → St → Option (Int32 × St)
  | 0, _, _, _ => none
  | n + 1, x0, x1, S => if (8 : Int32) ≤ x1 then some ((-1 : Int32), S) else if ((x0 >>> (x1 &&& 31)) &&& (1 : Int32)) = 0 then f_X8_lowestOf_2 n x0 (x1 + (1 : Int32)) S else some (x1, S)
noncomputable def f_X8_lowestOf (x0 : Int32) (S : St) : Option (Int32 × St) := f_X8_lowestOf_2 FU x0 (0 : Int32) S
set_option maxRecDepth 100000 in
set_option maxHeartbeats 4000000 in
theorem w_X8_lowestOf_2 {D : k_D} {dy : Nat → Nat} : ∀ (n : Nat) (x0 : Int32) (x1 : Int32) (S : St) (out : Int32 × St), f_X8_lowestOf_2 n x0 x1 S = some out → Rn yX8_lowestOf cX8_lowestOf 2 (some .int) (k_rm 0) 0 0 D dy S (k_Pi dy out) 2 [(0, .int x0), (1, .int x1)] [] := by
  intro n
  induction n with
  | zero => intro x0 x1 S out h; cases h
  | succ n ih =>
    intro x0 x1 S out h
    rw [f_X8_lowestOf_2] at h
    refine r_iload_n 1 dX8_lowestOf_2 rfl rfl ?_
    refine r_bipush (v := 8) dX8_lowestOf_3 rfl ?_
    refine r_icmp_ge (t := 24) dX8_lowestOf_5 (by decide) (fun c => ?_) (fun c => ?_)
    · rw [if_pos c] at h
      refine r_iconst (v := -1) dX8_lowestOf_24 rfl ?_
      cases h
      exact r_iret rfl dX8_lowestOf_25 ⟨rfl, rfl, rfl⟩
    · rw [if_neg c] at h
      refine r_iload_n 0 dX8_lowestOf_8 rfl rfl ?_
      refine r_iload_n 1 dX8_lowestOf_9 rfl rfl ?_
      refine r_ishr dX8_lowestOf_10 ?_
      refine r_iconst (v := 1) dX8_lowestOf_11 rfl ?_
      refine r_iand dX8_lowestOf_12 ?_
      refine r_if_eq (t := 18) dX8_lowestOf_13 (by decide) (fun c => ?_) (fun c => ?_)
      · rw [if_pos c] at h
        refine r_iinc (q := 1) (v := x1 + (1 : Int32)) dX8_lowestOf_18 rfl rfl (by decide) rfl ?_
        refine r_goto (t := 2) dX8_lowestOf_21 (by decide) ?_
        refine r_sub [1, 0] rfl ?_
        exact ih _ _ _ _ h
      · rw [if_neg c] at h
        refine r_iload_n 1 dX8_lowestOf_16 rfl rfl ?_
        cases h
        exact r_iret rfl dX8_lowestOf_17 ⟨rfl, rfl, rfl⟩
set_option maxRecDepth 100000 in
set_option maxHeartbeats 4000000 in
theorem w_X8_lowestOf_0 {D : k_D} {dy : Nat → Nat} (x0 : Int32) (S : St) (out : Int32 × St) (h : f_X8_lowestOf x0 S = some out) : Rn yX8_lowestOf cX8_lowestOf 2 (some .int) (k_rm 0) 0 0 D dy S (k_Pi dy out) 0 [(0, .int x0)] [] := by
    unfold f_X8_lowestOf at h
    refine r_iconst (v := 0) dX8_lowestOf_0 rfl ?_
    refine r_istore_n dX8_lowestOf_1 rfl (by decide) rfl ?_
    refine r_sub [1, 0] rfl ?_
    exact w_X8_lowestOf_2 _ _ _ _ _ h
theorem ok_X8_lowestOf {D : k_D} {dy : Nat → Nat} {x0 : Int32} {S : St} {out : Int32 × St} (h : f_X8_lowestOf x0 S = some out) : Sp yX8_lowestOf cX8_lowestOf 2 (some .int) (k_rm 0) D dy S [.int x0] (k_Pi dy out) := Sp.of (by decide +kernel) (Nat.le_of_ble_eq_true rfl) (w_X8_lowestOf_0 _ S out h)
noncomputable def f_X8_goesRound_96 (s0 : Int32) (S : St) : Option (Int32 × St) := if s0 = 0 ∨ s0 = 1 then some (s0, S) else none
noncomputable def f_X8_goesRound_85 (x3 : Int32) (x4 : Int32) (S : St) : Option (Int32 × St) := if x4 = x3 then f_X8_goesRound_96 (1 : Int32) S else f_X8_goesRound_96 (0 : Int32) S
noncomputable def f_X8_goesRound_45 (S : St) : Option (Int32 × St) := some ((0 : Int32), S)
noncomputable def f_X8_goesRound_14 : Nat → Int32 → Int32 → Int32 → Int32 → Int32 → Int32 → St → Option (Int32 × St)
  | 0, _, _, _, _, _, _, _ => none
  | n + 1, x1, x2, x3, x4, x5, x6, S => if x2 ≤ x6 then f_X8_goesRound_85 x3 x4 S else if (8 : Int32) ≤ x6 then f_X8_goesRound_85 x3 x4 S else (f_X11_isDancer x4 S).bind fun q29 => if q29.1 = 0 then f_X8_goesRound_45 q29.2 else if ((x5 >>> (x4 &&& 31)) &&& (1 : Int32)) = 0 then if k_b x6 8 = true then k_let (sA q29.2 31 x6.toNatClampNeg x4) fun S2 => if k_b x4 8 = true then (f_X8_lowestOf ((gA S2 30 x4.toNatClampNeg) &&& x1) S2).bind fun q74 => f_X8_goesRound_14 n x1 x2 x3 q74.1 (x5 ||| ((1 : Int32) <<< (x4 &&& 31))) (x6 + (1 : Int32)) q74.2 else none else none else f_X8_goesRound_45 q29.2
noncomputable def f_X8_goesRound (x1 : Int32) (x2 : Int32) (S : St) : Option (Int32 × St) := (f_X8_lowestOf x1 S).bind fun q1 => f_X8_goesRound_14 FU x1 x2 q1.1 q1.1 (0 : Int32) (0 : Int32) q1.2
set_option maxRecDepth 100000 in
set_option maxHeartbeats 4000000 in
theorem w_X8_goesRound_96 {D : k_D} {dy : Nat → Nat} (s0 : Int32) (S : St) (out : Int32 × St) (h : f_X8_goesRound_96 s0 S = some out) : Rn yX8_goesRound cX8_goesRound 7 (some .boolean) (k_rm 1) 0 0 D dy S (k_Pi dy out) 96 [] [.int s0] := by
    unfold f_X8_goesRound_96 at h
    obtain ⟨c, h⟩ := g_ite h
    cases h
    exact r_zret rfl (k_zn c) dX8_goesRound_96 ⟨rfl, rfl, rfl⟩
set_option maxRecDepth 100000 in
set_option maxHeartbeats 4000000 in
theorem w_X8_goesRound_85 {D : k_D} {dy : Nat → Nat} (x3 : Int32) (x4 : Int32) (S : St) (out : Int32 × St) (h : f_X8_goesRound_85 x3 x4 S = some out) : Rn yX8_goesRound cX8_goesRound 7 (some .boolean) (k_rm 1) 0 0 D dy S (k_Pi dy out) 85 [(3, .int x3), (4, .int x4)] [] := by
    unfold f_X8_goesRound_85 at h
    refine r_iload 1 dX8_goesRound_85 rfl ?_
    refine r_iload_n 0 dX8_goesRound_87 rfl rfl ?_
    refine r_icmp_ne (t := 95) dX8_goesRound_88 (by decide) (fun c => ?_) (fun c => ?_)
    · rw [if_neg c] at h
      refine r_iconst (v := 0) dX8_goesRound_95 rfl ?_
      refine r_sub [] rfl ?_
      exact w_X8_goesRound_96 _ _ _ h
    · rw [if_pos c] at h
      refine r_iconst (v := 1) dX8_goesRound_91 rfl ?_
      refine r_goto (t := 96) dX8_goesRound_92 (by decide) ?_
      refine r_sub [] rfl ?_
      exact w_X8_goesRound_96 _ _ _ h
set_option maxRecDepth 100000 in
set_option maxHeartbeats 4000000 in
theorem w_X8_goesRound_45 {D : k_D} {dy : Nat → Nat} (S : St) (out : Int32 × St) (h : f_X8_goesRound_45 S = some out) : Rn yX8_goesRound cX8_goesRound 7 (some .boolean) (k_rm 1) 0 0 D dy S (k_Pi dy out) 45 [] [] := by
    unfold f_X8_goesRound_45 at h
    refine r_iconst (v := 0) dX8_goesRound_45 rfl ?_
    cases h
    exact r_zret rfl rfl dX8_goesRound_46 ⟨rfl, rfl, rfl⟩
set_option maxRecDepth 100000 in
set_option maxHeartbeats 4000000 in
theorem w_X8_goesRound_14 {D : k_D} {dy : Nat → Nat} : ∀ (n : Nat) (x1 : Int32) (x2 : Int32) (x3 : Int32) (x4 : Int32) (x5 : Int32) (x6 : Int32) (S : St) (out : Int32 × St), f_X8_goesRound_14 n x1 x2 x3 x4 x5 x6 S = some out → Rn yX8_goesRound cX8_goesRound 7 (some .boolean) (k_rm 1) 0 0 D dy S (k_Pi dy out) 14 [(0, .ref (D.2.2 29)), (1, .int x1), (2, .int x2), (3, .int x3), (4, .int x4), (5, .int x5), (6, .int x6)] [] := by
  intro n
  induction n with
  | zero => intro x1 x2 x3 x4 x5 x6 S out h; cases h
  | succ n ih =>
    intro x1 x2 x3 x4 x5 x6 S out h
    rw [f_X8_goesRound_14] at h
    refine r_iload 6 dX8_goesRound_14 rfl ?_
    refine r_iload_n 2 dX8_goesRound_16 rfl rfl ?_
    refine r_icmp_ge (t := 85) dX8_goesRound_17 (by decide) (fun c => ?_) (fun c => ?_)
    · rw [if_pos c] at h
      refine r_sub [3, 4] rfl ?_
      exact w_X8_goesRound_85 _ _ _ _ h
    · rw [if_neg c] at h
      refine r_iload 6 dX8_goesRound_20 rfl ?_
      refine r_bipush (v := 8) dX8_goesRound_22 rfl ?_
      refine r_icmp_ge (t := 85) dX8_goesRound_24 (by decide) (fun c => ?_) (fun c => ?_)
      · rw [if_pos c] at h
        refine r_sub [3, 4] rfl ?_
        exact w_X8_goesRound_85 _ _ _ _ h
      · rw [if_neg c] at h
        refine r_iload 4 dX8_goesRound_27 rfl ?_
        obtain ⟨q29, hq29, h⟩ := g_bind h
        refine r_callSNi [.int x4] [] q29 (ok_X11_isDancer hq29) q_1037 q_668 q_669 q_141 hd_X11_isDancer ⟨Nat.le_of_ble_eq_true rfl, Nat.le_of_ble_eq_true rfl⟩ rfl rfl (Nat.le_of_ble_eq_true rfl) dX8_goesRound_29 ?_
        refine r_if_eq (t := 45) dX8_goesRound_32 (by decide) (fun c => ?_) (fun c => ?_)
        · rw [if_pos c] at h
          refine r_sub [] rfl ?_
          exact w_X8_goesRound_45 _ _ h
        · rw [if_neg c] at h
          refine r_iload 5 dX8_goesRound_35 rfl ?_
          refine r_iload 4 dX8_goesRound_37 rfl ?_
          refine r_ishr dX8_goesRound_39 ?_
          refine r_iconst (v := 1) dX8_goesRound_40 rfl ?_
          refine r_iand dX8_goesRound_41 ?_
          refine r_if_eq (t := 47) dX8_goesRound_42 (by decide) (fun c => ?_) (fun c => ?_)
          · rw [if_pos c] at h
            refine r_aload_n 0 dX8_goesRound_47 rfl rfl ?_
            refine gf_29_3 q_440 dX8_goesRound_48 ?_
            refine r_iload 6 dX8_goesRound_51 rfl ?_
            refine r_iload 4 dX8_goesRound_53 rfl ?_
            obtain ⟨c1, h⟩ := g_ite h
            refine as_31 (k_b_in c1) dX8_goesRound_55 ?_
            generalize sA q29.2 31 x6.toNatClampNeg x4 = S2 at h ⊢
            replace h := g_let h
            refine r_iload 5 dX8_goesRound_56 rfl ?_
            refine r_iconst (v := 1) dX8_goesRound_58 rfl ?_
            refine r_iload 4 dX8_goesRound_59 rfl ?_
            refine r_ishl dX8_goesRound_61 ?_
            refine r_ior dX8_goesRound_62 ?_
            refine r_istore dX8_goesRound_63 (by decide) rfl ?_
            refine r_aload_n 1 dX8_goesRound_65 rfl rfl ?_
            refine gf_29_2 q_439 dX8_goesRound_66 ?_
            refine r_iload 5 dX8_goesRound_69 rfl ?_
            obtain ⟨c3, h⟩ := g_ite h
            refine al_30 (k_b_in c3) dX8_goesRound_71 ?_
            refine r_iload_n 2 dX8_goesRound_72 rfl rfl ?_
            refine r_iand dX8_goesRound_73 ?_
            obtain ⟨q74, hq74, h⟩ := g_bind h
            refine r_callSi [.int ((gA S2 30 x4.toNatClampNeg) &&& x1)] [] q74 (ok_X8_lowestOf hq74) q_1043 q_1044 q_1045 q_148 hd_X8_lowestOf ⟨Nat.le_of_ble_eq_true rfl, Nat.le_of_ble_eq_true rfl⟩ rfl rfl (Nat.le_of_ble_eq_true rfl) dX8_goesRound_74 ?_
            refine r_istore dX8_goesRound_77 (by decide) rfl ?_
            refine r_iinc (q := 6) (v := x6 + (1 : Int32)) dX8_goesRound_79 rfl rfl (by decide) rfl ?_
            refine r_goto (t := 14) dX8_goesRound_82 (by decide) ?_
            refine r_sub [3, 4, 5, 6, 1, 2, 0] rfl ?_
            exact ih _ _ _ _ _ _ _ _ h
          · rw [if_neg c] at h
            refine r_sub [] rfl ?_
            exact w_X8_goesRound_45 _ _ h
set_option maxRecDepth 100000 in
set_option maxHeartbeats 4000000 in
theorem w_X8_goesRound_0 {D : k_D} {dy : Nat → Nat} (x1 : Int32) (x2 : Int32) (S : St) (out : Int32 × St) (h : f_X8_goesRound x1 x2 S = some out) : Rn yX8_goesRound cX8_goesRound 7 (some .boolean) (k_rm 1) 0 0 D dy S (k_Pi dy out) 0 [(0, .ref (D.2.2 29)), (1, .int x1), (2, .int x2)] [] := by
    unfold f_X8_goesRound at h
    refine r_iload_n 1 dX8_goesRound_0 rfl rfl ?_
    obtain ⟨q1, hq1, h⟩ := g_bind h
    refine r_callSi [.int x1] [] q1 (ok_X8_lowestOf hq1) q_1043 q_1044 q_1045 q_148 hd_X8_lowestOf ⟨Nat.le_of_ble_eq_true rfl, Nat.le_of_ble_eq_true rfl⟩ rfl rfl (Nat.le_of_ble_eq_true rfl) dX8_goesRound_1 ?_
    refine r_istore_n dX8_goesRound_4 rfl (by decide) rfl ?_
    refine r_iload_n 0 dX8_goesRound_5 rfl rfl ?_
    refine r_istore dX8_goesRound_6 (by decide) rfl ?_
    refine r_iconst (v := 0) dX8_goesRound_8 rfl ?_
    refine r_istore dX8_goesRound_9 (by decide) rfl ?_
    refine r_iconst (v := 0) dX8_goesRound_11 rfl ?_
    refine r_istore dX8_goesRound_12 (by decide) rfl ?_
    refine r_sub [4, 5, 6, 3, 2, 1, 0] rfl ?_
    exact w_X8_goesRound_14 _ _ _ _ _ _ _ _ _ h
theorem ok_X8_goesRound {D : k_D} {dy : Nat → Nat} {x1 : Int32} {x2 : Int32} {S : St} {out : Int32 × St} (h : f_X8_goesRound x1 x2 S = some out) : Sp yX8_goesRound cX8_goesRound 7 (some .boolean) (k_rm 1) D dy S [.ref (D.2.2 29), .int x1, .int x2] (k_Pi dy out) := Sp.of (by decide +kernel) (Nat.le_of_ble_eq_true rfl) (w_X8_goesRound_0 _ _ S out h)
