noncomputable def f_X12_in_18 (s0 : Int32) (S : St) : Option (Int32 × St) := if s0 = 0 ∨ s0 = 1 then some (s0, S) else none
noncomputable def f_X12_in_17 (S : St) : Option (Int32 × St) := f_X12_in_18 (0 : Int32) S
noncomputable def f_X12_in (x0 : Int64) (x2 : Int64) (x4 : Int64) (S : St) : Option (Int32 × St) := if x0 < x2 then f_X12_in_17 S else if x4 < x0 then f_X12_in_17 S else f_X12_in_18 (1 : Int32) S
set_option maxRecDepth 100000 in
set_option maxHeartbeats 4000000 in
theorem w_X12_in_18 {D : k_D} {dy : Nat → Nat} (s0 : Int32) (S : St) (out : Int32 × St) (h : f_X12_in_18 s0 S = some out) : Rn yX12_in cX12_in 6 (some .boolean) (k_rm 0) 0 0 D dy S (k_Pi dy out) 18 [] [.int s0] := by
    unfold f_X12_in_18 at h
    obtain ⟨c, h⟩ := g_ite h
    cases h
    exact r_zret rfl (k_zn c) dX12_in_18 ⟨rfl, rfl, rfl⟩
set_option maxRecDepth 100000 in
set_option maxHeartbeats 4000000 in
theorem w_X12_in_17 {D : k_D} {dy : Nat → Nat} (S : St) (out : Int32 × St) (h : f_X12_in_17 S = some out) : Rn yX12_in cX12_in 6 (some .boolean) (k_rm 0) 0 0 D dy S (k_Pi dy out) 17 [] [] := by
    unfold f_X12_in_17 at h
    refine r_iconst (v := 0) dX12_in_17 rfl ?_
    exact w_X12_in_18 _ _ _ h
set_option maxRecDepth 100000 in
set_option maxHeartbeats 4000000 in
theorem w_X12_in_0 {D : k_D} {dy : Nat → Nat} (x0 : Int64) (x2 : Int64) (x4 : Int64) (S : St) (out : Int32 × St) (h : f_X12_in x0 x2 x4 S = some out) : Rn yX12_in cX12_in 6 (some .boolean) (k_rm 0) 0 0 D dy S (k_Pi dy out) 0 [(0, .long x0), (2, .long x2), (4, .long x4)] [] := by
    unfold f_X12_in at h
    refine r_lload_n 0 dX12_in_0 rfl rfl ?_
    refine r_lload_n 1 dX12_in_1 rfl rfl ?_
    refine r_lcmp dX12_in_2 ?_
    refine r_if_lt (t := 17) dX12_in_3 (by decide) (fun c => ?_) (fun c => ?_)
    · rw [if_pos (lc_lt.mp c)] at h
      refine r_sub [] rfl ?_
      exact w_X12_in_17 _ _ h
    · rw [if_neg (fun z => c (lc_lt.mpr z))] at h
      refine r_lload_n 0 dX12_in_6 rfl rfl ?_
      refine r_lload 2 dX12_in_7 rfl ?_
      refine r_lcmp dX12_in_9 ?_
      refine r_if_gt (t := 17) dX12_in_10 (by decide) (fun c => ?_) (fun c => ?_)
      · rw [if_pos (lc_gt.mp c)] at h
        refine r_sub [] rfl ?_
        exact w_X12_in_17 _ _ h
      · rw [if_neg (fun z => c (lc_gt.mpr z))] at h
        refine r_iconst (v := 1) dX12_in_13 rfl ?_
        refine r_goto (t := 18) dX12_in_14 (by decide) ?_
        refine r_sub [] rfl ?_
        exact w_X12_in_18 _ _ _ h
theorem ok_X12_in {D : k_D} {dy : Nat → Nat} {x0 : Int64} {x2 : Int64} {x4 : Int64} {S : St} {out : Int32 × St} (h : f_X12_in x0 x2 x4 S = some out) : Sp yX12_in cX12_in 6 (some .boolean) (k_rm 0) D dy S [.long x0, .long x2, .long x4] (k_Pi dy out) := Sp.of (by decide +kernel) (Nat.le_of_ble_eq_true rfl) (w_X12_in_0 _ _ _ S out h)
noncomputable def f_X12_is_14 (s0 : Int32) (S : St) : Option (Int32 × St) := if s0 = 0 ∨ s0 = 1 then some (s0, S) else none
noncomputable def f_X12_is (x0 : Int32) (x1 : Int32) (S : St) : Option (Int32 × St) := if ((x0 >>> (x1 &&& 31)) &&& (1 : Int32)) = (1 : Int32) then f_X12_is_14 (1 : Int32) S else f_X12_is_14 (0 : Int32) S
set_option maxRecDepth 100000 in
set_option maxHeartbeats 4000000 in
theorem w_X12_is_14 {D : k_D} {dy : Nat → Nat} (s0 : Int32) (S : St) (out : Int32 × St) (h : f_X12_is_14 s0 S = some out) : Rn yX12_is cX12_is 2 (some .boolean) (k_rm 0) 0 0 D dy S (k_Pi dy out) 14 [] [.int s0] := by
    unfold f_X12_is_14 at h
    obtain ⟨c, h⟩ := g_ite h
    cases h
    exact r_zret rfl (k_zn c) dX12_is_14 ⟨rfl, rfl, rfl⟩
set_option maxRecDepth 100000 in
set_option maxHeartbeats 4000000 in
theorem w_X12_is_0 {D : k_D} {dy : Nat → Nat} (x0 : Int32) (x1 : Int32) (S : St) (out : Int32 × St) (h : f_X12_is x0 x1 S = some out) : Rn yX12_is cX12_is 2 (some .boolean) (k_rm 0) 0 0 D dy S (k_Pi dy out) 0 [(0, .int x0), (1, .int x1)] [] := by
    unfold f_X12_is at h
    refine r_iload_n 0 dX12_is_0 rfl rfl ?_
    refine r_iload_n 1 dX12_is_1 rfl rfl ?_
    refine r_ishr dX12_is_2 ?_
    refine r_iconst (v := 1) dX12_is_3 rfl ?_
    refine r_iand dX12_is_4 ?_
    refine r_iconst (v := 1) dX12_is_5 rfl ?_
    refine r_icmp_ne (t := 13) dX12_is_6 (by decide) (fun c => ?_) (fun c => ?_)
    · rw [if_neg c] at h
      refine r_iconst (v := 0) dX12_is_13 rfl ?_
      refine r_sub [] rfl ?_
      exact w_X12_is_14 _ _ _ h
    · rw [if_pos c] at h
      refine r_iconst (v := 1) dX12_is_9 rfl ?_
      refine r_goto (t := 14) dX12_is_10 (by decide) ?_
      refine r_sub [] rfl ?_
      exact w_X12_is_14 _ _ _ h
theorem ok_X12_is {D : k_D} {dy : Nat → Nat} {x0 : Int32} {x1 : Int32} {S : St} {out : Int32 × St} (h : f_X12_is x0 x1 S = some out) : Sp yX12_is cX12_is 2 (some .boolean) (k_rm 0) D dy S [.int x0, .int x1] (k_Pi dy out) := Sp.of (by decide +kernel) (Nat.le_of_ble_eq_true rfl) (w_X12_is_0 _ _ S out h)
noncomputable def f_X12_bits_4 : Nat → Int32 → Int32 → Int32 → St → Option (Int32 × St)
  | 0, _, _, _, _ => none
  | n + 1, x0, x1, x2, S => if (16 : Int32) ≤ x2 then some (x1, S) else f_X12_bits_4 n x0 (x1 + ((x0 >>> (x2 &&& 31)) &&& (1 : Int32))) (x2 + (1 : Int32)) S
noncomputable def f_X12_bits (x0 : Int32) (S : St) : Option (Int32 × St) := f_X12_bits_4 FU x0 (0 : Int32) (0 : Int32) S
set_option maxRecDepth 100000 in
set_option maxHeartbeats 4000000 in
theorem w_X12_bits_4 {D : k_D} {dy : Nat → Nat} : ∀ (n : Nat) (x0 : Int32) (x1 : Int32) (x2 : Int32) (S : St) (out : Int32 × St), f_X12_bits_4 n x0 x1 x2 S = some out → Rn yX12_bits cX12_bits 3 (some .int) (k_rm 0) 0 0 D dy S (k_Pi dy out) 4 [(0, .int x0), (1, .int x1), (2, .int x2)] [] := by
  intro n
  induction n with
  | zero => intro x0 x1 x2 S out h; cases h
  | succ n ih =>
    intro x0 x1 x2 S out h
    rw [f_X12_bits_4] at h
    refine r_iload_n 2 dX12_bits_4 rfl rfl ?_
    refine r_bipush (v := 16) dX12_bits_5 rfl ?_
    refine r_icmp_ge (t := 24) dX12_bits_7 (by decide) (fun c => ?_) (fun c => ?_)
    · rw [if_pos c] at h
      refine r_iload_n 1 dX12_bits_24 rfl rfl ?_
      cases h
      exact r_iret rfl dX12_bits_25 ⟨rfl, rfl, rfl⟩
    · rw [if_neg c] at h
      refine r_iload_n 1 dX12_bits_10 rfl rfl ?_
      refine r_iload_n 0 dX12_bits_11 rfl rfl ?_
      refine r_iload_n 2 dX12_bits_12 rfl rfl ?_
      refine r_ishr dX12_bits_13 ?_
      refine r_iconst (v := 1) dX12_bits_14 rfl ?_
      refine r_iand dX12_bits_15 ?_
      refine r_iadd dX12_bits_16 ?_
      refine r_istore_n dX12_bits_17 rfl (by decide) rfl ?_
      refine r_iinc (q := 2) (v := x2 + (1 : Int32)) dX12_bits_18 rfl rfl (by decide) rfl ?_
      refine r_goto (t := 4) dX12_bits_21 (by decide) ?_
      refine r_sub [2, 1, 0] rfl ?_
      exact ih _ _ _ _ _ h
set_option maxRecDepth 100000 in
set_option maxHeartbeats 4000000 in
theorem w_X12_bits_0 {D : k_D} {dy : Nat → Nat} (x0 : Int32) (S : St) (out : Int32 × St) (h : f_X12_bits x0 S = some out) : Rn yX12_bits cX12_bits 3 (some .int) (k_rm 0) 0 0 D dy S (k_Pi dy out) 0 [(0, .int x0)] [] := by
    unfold f_X12_bits at h
    refine r_iconst (v := 0) dX12_bits_0 rfl ?_
    refine r_istore_n dX12_bits_1 rfl (by decide) rfl ?_
    refine r_iconst (v := 0) dX12_bits_2 rfl ?_
    refine r_istore_n dX12_bits_3 rfl (by decide) rfl ?_
    refine r_sub [2, 1, 0] rfl ?_
    exact w_X12_bits_4 _ _ _ _ _ _ h
theorem ok_X12_bits {D : k_D} {dy : Nat → Nat} {x0 : Int32} {S : St} {out : Int32 × St} (h : f_X12_bits x0 S = some out) : Sp yX12_bits cX12_bits 3 (some .int) (k_rm 0) D dy S [.int x0] (k_Pi dy out) := Sp.of (by decide +kernel) (Nat.le_of_ble_eq_true rfl) (w_X12_bits_0 _ S out h)
noncomputable def f_X12_tell_28 (x1 : Int32) (S : St) : Option (Int32 × St) := some (x1, S)
noncomputable def f_X12_tell_10 (x1 : Int32) (s1 : Int32) (S : St) : Option (Int32 × St) := k_let (sI S 34 s1) fun S1 => if 0 ≤ x1 then f_X12_tell_28 x1 S1 else if k_b (-x1) 7 = true then if k_b (-x1) 7 = true then k_let (sA S1 52 (-x1).toNatClampNeg ((gA S1 52 (-x1).toNatClampNeg) + (1 : Int32))) fun S4 => f_X12_tell_28 x1 S4 else none else none
noncomputable def f_X12_tell (x1 : Int32) (S : St) : Option (Int32 × St) := if 0 ≤ x1 then f_X12_tell_10 x1 (0 : Int32) S else f_X12_tell_10 x1 x1 S
set_option maxRecDepth 100000 in
set_option maxHeartbeats 4000000 in
theorem w_X12_tell_28 {D : k_D} {dy : Nat → Nat} (x1 : Int32) (S : St) (out : Int32 × St) (h : f_X12_tell_28 x1 S = some out) : Rn yX12_tell cX12_tell 2 (some .int) (k_rm 0) 0 0 D dy S (k_Pi dy out) 28 [(1, .int x1)] [] := by
    unfold f_X12_tell_28 at h
    refine r_iload_n 0 dX12_tell_28 rfl rfl ?_
    cases h
    exact r_iret rfl dX12_tell_29 ⟨rfl, rfl, rfl⟩
set_option maxRecDepth 100000 in
set_option maxHeartbeats 4000000 in
theorem w_X12_tell_10 {D : k_D} {dy : Nat → Nat} (x1 : Int32) (s1 : Int32) (S : St) (out : Int32 × St) (h : f_X12_tell_10 x1 s1 S = some out) : Rn yX12_tell cX12_tell 2 (some .int) (k_rm 0) 0 0 D dy S (k_Pi dy out) 10 [(0, .ref (D.2.2 51)), (1, .int x1)] [.int s1, .ref (D.2.2 51)] := by
    unfold f_X12_tell_10 at h
    refine pf_51_1 q_1312 dX12_tell_10 ?_
    generalize sI S 34 s1 = S1 at h ⊢
    replace h := g_let h
    refine r_iload_n 1 dX12_tell_13 rfl rfl ?_
    refine r_if_ge (t := 28) dX12_tell_14 (by decide) (fun c => ?_) (fun c => ?_)
    · rw [if_pos c] at h
      refine r_sub [1] rfl ?_
      exact w_X12_tell_28 _ _ _ h
    · rw [if_neg c] at h
      refine r_aload_n 0 dX12_tell_17 rfl rfl ?_
      refine gf_51_2 q_1313 dX12_tell_18 ?_
      refine r_iload_n 1 dX12_tell_21 rfl rfl ?_
      refine r_ineg dX12_tell_22 ?_
      refine r_dup2 dX12_tell_23 rfl rfl ?_
      obtain ⟨c2, h⟩ := g_ite h
      refine al_52 (k_b_in c2) dX12_tell_24 ?_
      refine r_iconst (v := 1) dX12_tell_25 rfl ?_
      refine r_iadd dX12_tell_26 ?_
      obtain ⟨c3, h⟩ := g_ite h
      refine as_52 (k_b_in c3) dX12_tell_27 ?_
      generalize sA S1 52 (-x1).toNatClampNeg ((gA S1 52 (-x1).toNatClampNeg) + (1 : Int32)) = S4 at h ⊢
      replace h := g_let h
      refine r_sub [1] rfl ?_
      exact w_X12_tell_28 _ _ _ h
set_option maxRecDepth 100000 in
set_option maxHeartbeats 4000000 in
theorem w_X12_tell_0 {D : k_D} {dy : Nat → Nat} (x1 : Int32) (S : St) (out : Int32 × St) (h : f_X12_tell x1 S = some out) : Rn yX12_tell cX12_tell 2 (some .int) (k_rm 0) 0 0 D dy S (k_Pi dy out) 0 [(0, .ref (D.2.2 51)), (1, .int x1)] [] := by
    unfold f_X12_tell at h
    refine r_aload_n 0 dX12_tell_0 rfl rfl ?_
    refine r_iload_n 1 dX12_tell_1 rfl rfl ?_
    refine r_if_ge (t := 9) dX12_tell_2 (by decide) (fun c => ?_) (fun c => ?_)
    · rw [if_pos c] at h
      refine r_iconst (v := 0) dX12_tell_9 rfl ?_
      exact w_X12_tell_10 _ _ _ _ h
    · rw [if_neg c] at h
      refine r_iload_n 1 dX12_tell_5 rfl rfl ?_
      refine r_goto (t := 10) dX12_tell_6 (by decide) ?_
      exact w_X12_tell_10 _ _ _ _ h
theorem ok_X12_tell {D : k_D} {dy : Nat → Nat} {x1 : Int32} {S : St} {out : Int32 × St} (h : f_X12_tell x1 S = some out) : Sp yX12_tell cX12_tell 2 (some .int) (k_rm 0) D dy S [.ref (D.2.2 51), .int x1] (k_Pi dy out) := Sp.of (by decide +kernel) (Nat.le_of_ble_eq_true rfl) (w_X12_tell_0 _ S out h)
noncomputable def f_X12_change (x1 : Int32) (x2 : Int32) (S : St) : Option (Int32 × St) := if k_b x1 5560 = true then if k_b x1 5560 = true then k_let (sA S 53 x1.toNatClampNeg x2) fun S3 => k_let (sI S3 34 (0 : Int32)) fun S4 => some (gA S 53 x1.toNatClampNeg, S4) else none else none
set_option maxRecDepth 100000 in
set_option maxHeartbeats 4000000 in
theorem w_X12_change_0 {D : k_D} {dy : Nat → Nat} (x1 : Int32) (x2 : Int32) (S : St) (out : Int32 × St) (h : f_X12_change x1 x2 S = some out) : Rn yX12_change cX12_change 4 (some .int) (k_rm 0) 0 0 D dy S (k_Pi dy out) 0 [(0, .ref (D.2.2 51)), (1, .int x1), (2, .int x2)] [] := by
    unfold f_X12_change at h
    refine r_aload_n 0 dX12_change_0 rfl rfl ?_
    refine gf_51_3 q_1314 dX12_change_1 ?_
    refine r_iload_n 1 dX12_change_4 rfl rfl ?_
    obtain ⟨c1, h⟩ := g_ite h
    refine al_53 (k_b_in c1) dX12_change_5 ?_
    refine r_istore_n dX12_change_6 rfl (by decide) rfl ?_
    refine r_aload_n 1 dX12_change_7 rfl rfl ?_
    refine gf_51_3 q_1314 dX12_change_8 ?_
    refine r_iload_n 2 dX12_change_11 rfl rfl ?_
    refine r_iload_n 3 dX12_change_12 rfl rfl ?_
    obtain ⟨c2, h⟩ := g_ite h
    refine as_53 (k_b_in c2) dX12_change_13 ?_
    generalize sA S 53 x1.toNatClampNeg x2 = S3 at h ⊢
    replace h := g_let h
    refine r_aload_n 1 dX12_change_14 rfl rfl ?_
    refine r_iconst (v := 0) dX12_change_15 rfl ?_
    refine pf_51_1 q_1312 dX12_change_16 ?_
    generalize sI S3 34 (0 : Int32) = S4 at h ⊢
    replace h := g_let h
    refine r_iload_n 0 dX12_change_19 rfl rfl ?_
    cases h
    exact r_iret rfl dX12_change_20 ⟨rfl, rfl, rfl⟩
theorem ok_X12_change {D : k_D} {dy : Nat → Nat} {x1 : Int32} {x2 : Int32} {S : St} {out : Int32 × St} (h : f_X12_change x1 x2 S = some out) : Sp yX12_change cX12_change 4 (some .int) (k_rm 0) D dy S [.ref (D.2.2 51), .int x1, .int x2] (k_Pi dy out) := Sp.of (by decide +kernel) (Nat.le_of_ble_eq_true rfl) (w_X12_change_0 _ _ S out h)
noncomputable def f_X12_image_23 : Nat → Int32 → Int32 → St → Option (Int32 × St)
  | 0, _, _, _ => none
  | n + 1, x1, x2, S => if (5560 : Int32) ≤ x2 then if k_b x1 2 = true then k_let (sA S 55 x1.toNatClampNeg (vp_nar .boolean (1 : Int32))) fun S2 => (f_X12_tell (0 : Int32) S2).bind fun q63 => some (q63.1, q63.2) else none else if k_b x2 5560 = true then if k_b (((5560 : Int32) * x1) + x2) 11120 = true then k_let (sA S 54 (((5560 : Int32) * x1) + x2).toNatClampNeg (gA S 53 x2.toNatClampNeg)) fun S5 => f_X12_image_23 n x1 (x2 + (1 : Int32)) S5 else none else none
noncomputable def f_X12_image (x1 : Int32) (S : St) : Option (Int32 × St) := k_let (sI S 33 (0 : Int32)) fun S1 => (f_X12_in x1.toInt64 (0 : Int64) (1 : Int64) S1).bind fun q9 => if q9.1 = 0 then (f_X12_tell (-1 : Int32) q9.2).bind fun q17 => some (q17.1, q17.2) else f_X12_image_23 FU x1 (0 : Int32) q9.2
set_option maxRecDepth 100000 in
set_option maxHeartbeats 4000000 in
theorem w_X12_image_23 {D : k_D} {dy : Nat → Nat} : ∀ (n : Nat) (x1 : Int32) (x2 : Int32) (S : St) (out : Int32 × St), f_X12_image_23 n x1 x2 S = some out → Rn yX12_image cX12_image 3 (some .int) (k_rm 1) 0 0 D dy S (k_Pi dy out) 23 [(0, .ref (D.2.2 51)), (1, .int x1), (2, .int x2)] [] := by
  intro n
  induction n with
  | zero => intro x1 x2 S out h; cases h
  | succ n ih =>
    intro x1 x2 S out h
    rw [f_X12_image_23] at h
    refine r_iload_n 2 dX12_image_23 rfl rfl ?_
    refine r_sipush (v := 5560) dX12_image_24 rfl ?_
    refine r_icmp_ge (t := 54) dX12_image_27 (by decide) (fun c => ?_) (fun c => ?_)
    · rw [if_pos c] at h
      refine r_aload_n 0 dX12_image_54 rfl rfl ?_
      refine gf_51_5 q_1316 dX12_image_55 ?_
      refine r_iload_n 1 dX12_image_58 rfl rfl ?_
      refine r_iconst (v := 1) dX12_image_59 rfl ?_
      obtain ⟨c1, h⟩ := g_ite h
      refine as_55 (k_b_in c1) dX12_image_60 ?_
      generalize sA S 55 x1.toNatClampNeg (vp_nar .boolean (1 : Int32)) = S2 at h ⊢
      replace h := g_let h
      refine r_aload_n 0 dX12_image_61 rfl rfl ?_
      refine r_iconst (v := 0) dX12_image_62 rfl ?_
      obtain ⟨q63, hq63, h⟩ := g_bind h
      refine r_callVi [.int (0 : Int32)] [] q63 (ok_X12_tell hq63) q_1484 q_1486 q_89 q_1487 q_153 hd_X12_tell (ce_51 D dy _) kc12.1 rfl ⟨Nat.le_of_ble_eq_true rfl, Nat.le_of_ble_eq_true rfl⟩ rfl rfl (Nat.le_of_ble_eq_true rfl) dX12_image_63 ?_
      cases h
      exact r_iret rfl dX12_image_66 ⟨rfl, rfl, rfl⟩
    · rw [if_neg c] at h
      refine r_aload_n 0 dX12_image_30 rfl rfl ?_
      refine gf_51_4 q_1315 dX12_image_31 ?_
      refine r_sipush (v := 5560) dX12_image_34 rfl ?_
      refine r_iload_n 1 dX12_image_37 rfl rfl ?_
      refine r_imul dX12_image_38 ?_
      refine r_iload_n 2 dX12_image_39 rfl rfl ?_
      refine r_iadd dX12_image_40 ?_
      refine r_aload_n 0 dX12_image_41 rfl rfl ?_
      refine gf_51_3 q_1314 dX12_image_42 ?_
      refine r_iload_n 2 dX12_image_45 rfl rfl ?_
      obtain ⟨c3, h⟩ := g_ite h
      refine al_53 (k_b_in c3) dX12_image_46 ?_
      obtain ⟨c4, h⟩ := g_ite h
      refine as_54 (k_b_in c4) dX12_image_47 ?_
      generalize sA S 54 (((5560 : Int32) * x1) + x2).toNatClampNeg (gA S 53 x2.toNatClampNeg) = S5 at h ⊢
      replace h := g_let h
      refine r_iinc (q := 2) (v := x2 + (1 : Int32)) dX12_image_48 rfl rfl (by decide) rfl ?_
      refine r_goto (t := 23) dX12_image_51 (by decide) ?_
      refine r_sub [1, 2, 0] rfl ?_
      exact ih _ _ _ _ h
set_option maxRecDepth 100000 in
set_option maxHeartbeats 4000000 in
theorem w_X12_image_0 {D : k_D} {dy : Nat → Nat} (x1 : Int32) (S : St) (out : Int32 × St) (h : f_X12_image x1 S = some out) : Rn yX12_image cX12_image 3 (some .int) (k_rm 1) 0 0 D dy S (k_Pi dy out) 0 [(0, .ref (D.2.2 51)), (1, .int x1)] [] := by
    unfold f_X12_image at h
    refine r_aload_n 0 dX12_image_0 rfl rfl ?_
    refine r_iconst (v := 0) dX12_image_1 rfl ?_
    refine pf_51_0 q_1311 dX12_image_2 ?_
    generalize sI S 33 (0 : Int32) = S1 at h ⊢
    replace h := g_let h
    refine r_iload_n 1 dX12_image_5 rfl rfl ?_
    refine r_i2l dX12_image_6 ?_
    refine r_lconst (v := 0) dX12_image_7 rfl ?_
    refine r_lconst (v := 1) dX12_image_8 rfl ?_
    obtain ⟨q9, hq9, h⟩ := g_bind h
    refine r_callSi [.long x1.toInt64, .long (0 : Int64), .long (1 : Int64)] [] q9 (ok_X12_in hq9) q_1481 q_1482 q_1483 q_153 hd_X12_in ⟨Nat.le_of_ble_eq_true rfl, Nat.le_of_ble_eq_true rfl⟩ rfl rfl (Nat.le_of_ble_eq_true rfl) dX12_image_9 ?_
    refine r_if_ne (t := 21) dX12_image_12 (by decide) (fun c => ?_) (fun c => ?_)
    · rw [if_neg c] at h
      refine r_iconst (v := 0) dX12_image_21 rfl ?_
      refine r_istore_n dX12_image_22 rfl (by decide) rfl ?_
      refine r_sub [1, 2, 0] rfl ?_
      exact w_X12_image_23 _ _ _ _ _ h
    · rw [if_pos c] at h
      refine r_aload_n 0 dX12_image_15 rfl rfl ?_
      refine r_iconst (v := -1) dX12_image_16 rfl ?_
      obtain ⟨q17, hq17, h⟩ := g_bind h
      refine r_callVi [.int (-1 : Int32)] [] q17 (ok_X12_tell hq17) q_1484 q_1486 q_89 q_1487 q_153 hd_X12_tell (ce_51 D dy _) kc12.1 rfl ⟨Nat.le_of_ble_eq_true rfl, Nat.le_of_ble_eq_true rfl⟩ rfl rfl (Nat.le_of_ble_eq_true rfl) dX12_image_17 ?_
      cases h
      exact r_iret rfl dX12_image_20 ⟨rfl, rfl, rfl⟩
theorem ok_X12_image {D : k_D} {dy : Nat → Nat} {x1 : Int32} {S : St} {out : Int32 × St} (h : f_X12_image x1 S = some out) : Sp yX12_image cX12_image 3 (some .int) (k_rm 1) D dy S [.ref (D.2.2 51), .int x1] (k_Pi dy out) := Sp.of (by decide +kernel) (Nat.le_of_ble_eq_true rfl) (w_X12_image_0 _ S out h)
noncomputable def f_X12_back_39 : Nat → Int32 → Int32 → St → Option (Int32 × St)
  | 0, _, _, _ => none
  | n + 1, x1, x2, S => if (5560 : Int32) ≤ x2 then (f_X12_tell (0 : Int32) S).bind fun q72 => some (q72.1, q72.2) else if k_b (((5560 : Int32) * x1) + x2) 11120 = true then if k_b x2 5560 = true then k_let (sA S 53 x2.toNatClampNeg (gA S 54 (((5560 : Int32) * x1) + x2).toNatClampNeg)) fun S3 => f_X12_back_39 n x1 (x2 + (1 : Int32)) S3 else none else none
noncomputable def f_X12_back (x1 : Int32) (S : St) : Option (Int32 × St) := k_let (sI S 33 (0 : Int32)) fun S1 => (f_X12_in x1.toInt64 (0 : Int64) (1 : Int64) S1).bind fun q9 => if q9.1 = 0 then (f_X12_tell (-1 : Int32) q9.2).bind fun q17 => some (q17.1, q17.2) else if k_b x1 2 = true then if (gA q9.2 55 x1.toNatClampNeg) = 0 then (f_X12_tell (-2 : Int32) q9.2).bind fun q33 => some (q33.1, q33.2) else f_X12_back_39 FU x1 (0 : Int32) q9.2 else none
set_option maxRecDepth 100000 in
set_option maxHeartbeats 4000000 in
theorem w_X12_back_39 {D : k_D} {dy : Nat → Nat} : ∀ (n : Nat) (x1 : Int32) (x2 : Int32) (S : St) (out : Int32 × St), f_X12_back_39 n x1 x2 S = some out → Rn yX12_back cX12_back 3 (some .int) (k_rm 1) 0 0 D dy S (k_Pi dy out) 39 [(0, .ref (D.2.2 51)), (1, .int x1), (2, .int x2)] [] := by
  intro n
  induction n with
  | zero => intro x1 x2 S out h; cases h
  | succ n ih =>
    intro x1 x2 S out h
    rw [f_X12_back_39] at h
    refine r_iload_n 2 dX12_back_39 rfl rfl ?_
    refine r_sipush (v := 5560) dX12_back_40 rfl ?_
    refine r_icmp_ge (t := 70) dX12_back_43 (by decide) (fun c => ?_) (fun c => ?_)
    · rw [if_pos c] at h
      refine r_aload_n 0 dX12_back_70 rfl rfl ?_
      refine r_iconst (v := 0) dX12_back_71 rfl ?_
      obtain ⟨q72, hq72, h⟩ := g_bind h
      refine r_callVi [.int (0 : Int32)] [] q72 (ok_X12_tell hq72) q_1484 q_1486 q_89 q_1487 q_153 hd_X12_tell (ce_51 D dy _) kc12.1 rfl ⟨Nat.le_of_ble_eq_true rfl, Nat.le_of_ble_eq_true rfl⟩ rfl rfl (Nat.le_of_ble_eq_true rfl) dX12_back_72 ?_
      cases h
      exact r_iret rfl dX12_back_75 ⟨rfl, rfl, rfl⟩
    · rw [if_neg c] at h
      refine r_aload_n 0 dX12_back_46 rfl rfl ?_
      refine gf_51_3 q_1314 dX12_back_47 ?_
      refine r_iload_n 2 dX12_back_50 rfl rfl ?_
      refine r_aload_n 0 dX12_back_51 rfl rfl ?_
      refine gf_51_4 q_1315 dX12_back_52 ?_
      refine r_sipush (v := 5560) dX12_back_55 rfl ?_
      refine r_iload_n 1 dX12_back_58 rfl rfl ?_
      refine r_imul dX12_back_59 ?_
      refine r_iload_n 2 dX12_back_60 rfl rfl ?_
      refine r_iadd dX12_back_61 ?_
      obtain ⟨c1, h⟩ := g_ite h
      refine al_54 (k_b_in c1) dX12_back_62 ?_
      obtain ⟨c2, h⟩ := g_ite h
      refine as_53 (k_b_in c2) dX12_back_63 ?_
      generalize sA S 53 x2.toNatClampNeg (gA S 54 (((5560 : Int32) * x1) + x2).toNatClampNeg) = S3 at h ⊢
      replace h := g_let h
      refine r_iinc (q := 2) (v := x2 + (1 : Int32)) dX12_back_64 rfl rfl (by decide) rfl ?_
      refine r_goto (t := 39) dX12_back_67 (by decide) ?_
      refine r_sub [1, 2, 0] rfl ?_
      exact ih _ _ _ _ h
set_option maxRecDepth 100000 in
set_option maxHeartbeats 4000000 in
theorem w_X12_back_0 {D : k_D} {dy : Nat → Nat} (x1 : Int32) (S : St) (out : Int32 × St) (h : f_X12_back x1 S = some out) : Rn yX12_back cX12_back 3 (some .int) (k_rm 1) 0 0 D dy S (k_Pi dy out) 0 [(0, .ref (D.2.2 51)), (1, .int x1)] [] := by
    unfold f_X12_back at h
    refine r_aload_n 0 dX12_back_0 rfl rfl ?_
    refine r_iconst (v := 0) dX12_back_1 rfl ?_
    refine pf_51_0 q_1311 dX12_back_2 ?_
    generalize sI S 33 (0 : Int32) = S1 at h ⊢
    replace h := g_let h
    refine r_iload_n 1 dX12_back_5 rfl rfl ?_
    refine r_i2l dX12_back_6 ?_
    refine r_lconst (v := 0) dX12_back_7 rfl ?_
    refine r_lconst (v := 1) dX12_back_8 rfl ?_
    obtain ⟨q9, hq9, h⟩ := g_bind h
    refine r_callSi [.long x1.toInt64, .long (0 : Int64), .long (1 : Int64)] [] q9 (ok_X12_in hq9) q_1481 q_1482 q_1483 q_153 hd_X12_in ⟨Nat.le_of_ble_eq_true rfl, Nat.le_of_ble_eq_true rfl⟩ rfl rfl (Nat.le_of_ble_eq_true rfl) dX12_back_9 ?_
    refine r_if_ne (t := 21) dX12_back_12 (by decide) (fun c => ?_) (fun c => ?_)
    · rw [if_neg c] at h
      refine r_aload_n 0 dX12_back_21 rfl rfl ?_
      refine gf_51_5 q_1316 dX12_back_22 ?_
      refine r_iload_n 1 dX12_back_25 rfl rfl ?_
      obtain ⟨c2, h⟩ := g_ite h
      refine al_55 (k_b_in c2) dX12_back_26 ?_
      refine r_if_ne (t := 37) dX12_back_27 (by decide) (fun c => ?_) (fun c => ?_)
      · rw [if_neg c] at h
        refine r_iconst (v := 0) dX12_back_37 rfl ?_
        refine r_istore_n dX12_back_38 rfl (by decide) rfl ?_
        refine r_sub [1, 2, 0] rfl ?_
        exact w_X12_back_39 _ _ _ _ _ h
      · rw [if_pos c] at h
        refine r_aload_n 0 dX12_back_30 rfl rfl ?_
        refine r_bipush (v := -2) dX12_back_31 rfl ?_
        obtain ⟨q33, hq33, h⟩ := g_bind h
        refine r_callVi [.int (-2 : Int32)] [] q33 (ok_X12_tell hq33) q_1484 q_1486 q_89 q_1487 q_153 hd_X12_tell (ce_51 D dy _) kc12.1 rfl ⟨Nat.le_of_ble_eq_true rfl, Nat.le_of_ble_eq_true rfl⟩ rfl rfl (Nat.le_of_ble_eq_true rfl) dX12_back_33 ?_
        cases h
        exact r_iret rfl dX12_back_36 ⟨rfl, rfl, rfl⟩
    · rw [if_pos c] at h
      refine r_aload_n 0 dX12_back_15 rfl rfl ?_
      refine r_iconst (v := -1) dX12_back_16 rfl ?_
      obtain ⟨q17, hq17, h⟩ := g_bind h
      refine r_callVi [.int (-1 : Int32)] [] q17 (ok_X12_tell hq17) q_1484 q_1486 q_89 q_1487 q_153 hd_X12_tell (ce_51 D dy _) kc12.1 rfl ⟨Nat.le_of_ble_eq_true rfl, Nat.le_of_ble_eq_true rfl⟩ rfl rfl (Nat.le_of_ble_eq_true rfl) dX12_back_17 ?_
      cases h
      exact r_iret rfl dX12_back_20 ⟨rfl, rfl, rfl⟩
theorem ok_X12_back {D : k_D} {dy : Nat → Nat} {x1 : Int32} {S : St} {out : Int32 × St} (h : f_X12_back x1 S = some out) : Sp yX12_back cX12_back 3 (some .int) (k_rm 1) D dy S [.ref (D.2.2 51), .int x1] (k_Pi dy out) := Sp.of (by decide +kernel) (Nat.le_of_ble_eq_true rfl) (w_X12_back_0 _ S out h)
noncomputable def f_X12_isDancer (x0 : Int32) (S : St) : Option (Int32 × St) := (f_X12_in x0.toInt64 (0 : Int64) (7 : Int64) S).bind fun q6 => if q6.1 = 0 ∨ q6.1 = 1 then some (q6.1, q6.2) else none
set_option maxRecDepth 100000 in
set_option maxHeartbeats 4000000 in
theorem w_X12_isDancer_0 {D : k_D} {dy : Nat → Nat} (x0 : Int32) (S : St) (out : Int32 × St) (h : f_X12_isDancer x0 S = some out) : Rn yX12_isDancer cX12_isDancer 1 (some .boolean) (k_rm 1) 0 0 D dy S (k_Pi dy out) 0 [(0, .int x0)] [] := by
    unfold f_X12_isDancer at h
    refine r_iload_n 0 dX12_isDancer_0 rfl rfl ?_
    refine r_i2l dX12_isDancer_1 ?_
    refine r_lconst (v := 0) dX12_isDancer_2 rfl ?_
    refine r_ldc2 (v := 7) q_1515 dX12_isDancer_3 ?_
    obtain ⟨q6, hq6, h⟩ := g_bind h
    refine r_callSi [.long x0.toInt64, .long (0 : Int64), .long (7 : Int64)] [] q6 (ok_X12_in hq6) q_1481 q_1482 q_1483 q_153 hd_X12_in ⟨Nat.le_of_ble_eq_true rfl, Nat.le_of_ble_eq_true rfl⟩ rfl rfl (Nat.le_of_ble_eq_true rfl) dX12_isDancer_6 ?_
    obtain ⟨c, h⟩ := g_ite h
    cases h
    exact r_zret rfl (k_zn c) dX12_isDancer_9 ⟨rfl, rfl, rfl⟩
theorem ok_X12_isDancer {D : k_D} {dy : Nat → Nat} {x0 : Int32} {S : St} {out : Int32 × St} (h : f_X12_isDancer x0 S = some out) : Sp yX12_isDancer cX12_isDancer 1 (some .boolean) (k_rm 1) D dy S [.int x0] (k_Pi dy out) := Sp.of (by decide +kernel) (Nat.le_of_ble_eq_true rfl) (w_X12_isDancer_0 _ S out h)
noncomputable def f_X12_isTune (x1 : Int32) (S : St) : Option (Int32 × St) := if k_b (0 : Int32) 5560 = true then (f_X12_in x1.toInt64 (0 : Int64) (((gA S 53 (0 : Int32).toNatClampNeg).toInt64) - (1 : Int64)) S).bind fun q12 => if q12.1 = 0 ∨ q12.1 = 1 then some (q12.1, q12.2) else none else none
set_option maxRecDepth 100000 in
set_option maxHeartbeats 4000000 in
theorem w_X12_isTune_0 {D : k_D} {dy : Nat → Nat} (x1 : Int32) (S : St) (out : Int32 × St) (h : f_X12_isTune x1 S = some out) : Rn yX12_isTune cX12_isTune 2 (some .boolean) (k_rm 1) 0 0 D dy S (k_Pi dy out) 0 [(0, .ref (D.2.2 51)), (1, .int x1)] [] := by
    unfold f_X12_isTune at h
    refine r_iload_n 1 dX12_isTune_0 rfl rfl ?_
    refine r_i2l dX12_isTune_1 ?_
    refine r_lconst (v := 0) dX12_isTune_2 rfl ?_
    refine r_aload_n 0 dX12_isTune_3 rfl rfl ?_
    refine gf_51_3 q_1314 dX12_isTune_4 ?_
    refine r_iconst (v := 0) dX12_isTune_7 rfl ?_
    obtain ⟨c1, h⟩ := g_ite h
    refine al_53 (k_b_in c1) dX12_isTune_8 ?_
    refine r_i2l dX12_isTune_9 ?_
    refine r_lconst (v := 1) dX12_isTune_10 rfl ?_
    refine r_lsub dX12_isTune_11 ?_
    obtain ⟨q12, hq12, h⟩ := g_bind h
    refine r_callSi [.long x1.toInt64, .long (0 : Int64), .long (((gA S 53 (0 : Int32).toNatClampNeg).toInt64) - (1 : Int64))] [] q12 (ok_X12_in hq12) q_1481 q_1482 q_1483 q_153 hd_X12_in ⟨Nat.le_of_ble_eq_true rfl, Nat.le_of_ble_eq_true rfl⟩ rfl rfl (Nat.le_of_ble_eq_true rfl) dX12_isTune_12 ?_
    obtain ⟨c, h⟩ := g_ite h
    cases h
    exact r_zret rfl (k_zn c) dX12_isTune_15 ⟨rfl, rfl, rfl⟩
theorem ok_X12_isTune {D : k_D} {dy : Nat → Nat} {x1 : Int32} {S : St} {out : Int32 × St} (h : f_X12_isTune x1 S = some out) : Sp yX12_isTune cX12_isTune 2 (some .boolean) (k_rm 1) D dy S [.ref (D.2.2 51), .int x1] (k_Pi dy out) := Sp.of (by decide +kernel) (Nat.le_of_ble_eq_true rfl) (w_X12_isTune_0 _ S out h)
noncomputable def f_X12_debts (S : St) : Option (Int32 × St) := if k_b (1 : Int32) 5560 = true then some (gA S 53 (1 : Int32).toNatClampNeg, S) else none
set_option maxRecDepth 100000 in
set_option maxHeartbeats 4000000 in
theorem w_X12_debts_0 {D : k_D} {dy : Nat → Nat} (S : St) (out : Int32 × St) (h : f_X12_debts S = some out) : Rn yX12_debts cX12_debts 1 (some .int) (k_rm 0) 0 0 D dy S (k_Pi dy out) 0 [(0, .ref (D.2.2 51))] [] := by
    unfold f_X12_debts at h
    refine r_aload_n 0 dX12_debts_0 rfl rfl ?_
    refine gf_51_3 q_1314 dX12_debts_1 ?_
    refine r_iconst (v := 1) dX12_debts_4 rfl ?_
    obtain ⟨c1, h⟩ := g_ite h
    refine al_53 (k_b_in c1) dX12_debts_5 ?_
    cases h
    exact r_iret rfl dX12_debts_6 ⟨rfl, rfl, rfl⟩
theorem ok_X12_debts {D : k_D} {dy : Nat → Nat} {S : St} {out : Int32 × St} (h : f_X12_debts S = some out) : Sp yX12_debts cX12_debts 1 (some .int) (k_rm 0) D dy S [.ref (D.2.2 51)] (k_Pi dy out) := Sp.of (by decide +kernel) (Nat.le_of_ble_eq_true rfl) (w_X12_debts_0 S out h)
noncomputable def f_X12_isDebt (x1 : Int32) (S : St) : Option (Int32 × St) := (f_X12_debts S).bind fun q4 => (f_X12_in x1.toInt64 (0 : Int64) (q4.1.toInt64 - (1 : Int64)) q4.2).bind fun q10 => if q10.1 = 0 ∨ q10.1 = 1 then some (q10.1, q10.2) else none
set_option maxRecDepth 100000 in
set_option maxHeartbeats 4000000 in
theorem w_X12_isDebt_0 {D : k_D} {dy : Nat → Nat} (x1 : Int32) (S : St) (out : Int32 × St) (h : f_X12_isDebt x1 S = some out) : Rn yX12_isDebt cX12_isDebt 2 (some .boolean) (k_rm 1) 0 0 D dy S (k_Pi dy out) 0 [(0, .ref (D.2.2 51)), (1, .int x1)] [] := by
    unfold f_X12_isDebt at h
    refine r_iload_n 1 dX12_isDebt_0 rfl rfl ?_
    refine r_i2l dX12_isDebt_1 ?_
    refine r_lconst (v := 0) dX12_isDebt_2 rfl ?_
    refine r_aload_n 0 dX12_isDebt_3 rfl rfl ?_
    obtain ⟨q4, hq4, h⟩ := g_bind h
    refine r_callVi [] [.long (0 : Int64), .long x1.toInt64] q4 (ok_X12_debts hq4) q_1517 q_1519 q_91 q_1520 q_153 hd_X12_debts (ce_51 D dy _) kc12.1 rfl ⟨Nat.le_of_ble_eq_true rfl, Nat.le_of_ble_eq_true rfl⟩ rfl rfl (Nat.le_of_ble_eq_true rfl) dX12_isDebt_4 ?_
    refine r_i2l dX12_isDebt_7 ?_
    refine r_lconst (v := 1) dX12_isDebt_8 rfl ?_
    refine r_lsub dX12_isDebt_9 ?_
    obtain ⟨q10, hq10, h⟩ := g_bind h
    refine r_callSi [.long x1.toInt64, .long (0 : Int64), .long (q4.1.toInt64 - (1 : Int64))] [] q10 (ok_X12_in hq10) q_1481 q_1482 q_1483 q_153 hd_X12_in ⟨Nat.le_of_ble_eq_true rfl, Nat.le_of_ble_eq_true rfl⟩ rfl rfl (Nat.le_of_ble_eq_true rfl) dX12_isDebt_10 ?_
    obtain ⟨c, h⟩ := g_ite h
    cases h
    exact r_zret rfl (k_zn c) dX12_isDebt_13 ⟨rfl, rfl, rfl⟩
theorem ok_X12_isDebt {D : k_D} {dy : Nat → Nat} {x1 : Int32} {S : St} {out : Int32 × St} (h : f_X12_isDebt x1 S = some out) : Sp yX12_isDebt cX12_isDebt 2 (some .boolean) (k_rm 1) D dy S [.ref (D.2.2 51), .int x1] (k_Pi dy out) := Sp.of (by decide +kernel) (Nat.le_of_ble_eq_true rfl) (w_X12_isDebt_0 _ S out h)
noncomputable def f_X12_ofDebt (x1 : Int32) (x2 : Int32) (S : St) : Option (Int32 × St) := if k_b (((14 : Int32) + ((5 : Int32) * x1)) + x2) 5560 = true then some (gA S 53 (((14 : Int32) + ((5 : Int32) * x1)) + x2).toNatClampNeg, S) else none
set_option maxRecDepth 100000 in
set_option maxHeartbeats 4000000 in
theorem w_X12_ofDebt_0 {D : k_D} {dy : Nat → Nat} (x1 : Int32) (x2 : Int32) (S : St) (out : Int32 × St) (h : f_X12_ofDebt x1 x2 S = some out) : Rn yX12_ofDebt cX12_ofDebt 3 (some .int) (k_rm 0) 0 0 D dy S (k_Pi dy out) 0 [(0, .ref (D.2.2 51)), (1, .int x1), (2, .int x2)] [] := by
    unfold f_X12_ofDebt at h
    refine r_aload_n 0 dX12_ofDebt_0 rfl rfl ?_
    refine gf_51_3 q_1314 dX12_ofDebt_1 ?_
    refine r_bipush (v := 14) dX12_ofDebt_4 rfl ?_
    refine r_iconst (v := 5) dX12_ofDebt_6 rfl ?_
    refine r_iload_n 1 dX12_ofDebt_7 rfl rfl ?_
    refine r_imul dX12_ofDebt_8 ?_
    refine r_iadd dX12_ofDebt_9 ?_
    refine r_iload_n 2 dX12_ofDebt_10 rfl rfl ?_
    refine r_iadd dX12_ofDebt_11 ?_
    obtain ⟨c1, h⟩ := g_ite h
    refine al_53 (k_b_in c1) dX12_ofDebt_12 ?_
    cases h
    exact r_iret rfl dX12_ofDebt_13 ⟨rfl, rfl, rfl⟩
theorem ok_X12_ofDebt {D : k_D} {dy : Nat → Nat} {x1 : Int32} {x2 : Int32} {S : St} {out : Int32 × St} (h : f_X12_ofDebt x1 x2 S = some out) : Sp yX12_ofDebt cX12_ofDebt 3 (some .int) (k_rm 0) D dy S [.ref (D.2.2 51), .int x1, .int x2] (k_Pi dy out) := Sp.of (by decide +kernel) (Nat.le_of_ble_eq_true rfl) (w_X12_ofDebt_0 _ _ S out h)
noncomputable def f_X12_lengthOf (x1 : Int32) (S : St) : Option (Int32 × St) := (f_X12_ofDebt x1 (2 : Int32) S).bind fun q9 => if k_b ((8 : Int32) + q9.1) 5560 = true then some (gA q9.2 53 ((8 : Int32) + q9.1).toNatClampNeg, q9.2) else none
set_option maxRecDepth 100000 in
set_option maxHeartbeats 4000000 in
theorem w_X12_lengthOf_0 {D : k_D} {dy : Nat → Nat} (x1 : Int32) (S : St) (out : Int32 × St) (h : f_X12_lengthOf x1 S = some out) : Rn yX12_lengthOf cX12_lengthOf 2 (some .int) (k_rm 1) 0 0 D dy S (k_Pi dy out) 0 [(0, .ref (D.2.2 51)), (1, .int x1)] [] := by
    unfold f_X12_lengthOf at h
    refine r_aload_n 0 dX12_lengthOf_0 rfl rfl ?_
    refine gf_51_3 q_1314 dX12_lengthOf_1 ?_
    refine r_bipush (v := 8) dX12_lengthOf_4 rfl ?_
    refine r_aload_n 0 dX12_lengthOf_6 rfl rfl ?_
    refine r_iload_n 1 dX12_lengthOf_7 rfl rfl ?_
    refine r_iconst (v := 2) dX12_lengthOf_8 rfl ?_
    obtain ⟨q9, hq9, h⟩ := g_bind h
    refine r_callVi [.int x1, .int (2 : Int32)] [.int (8 : Int32), .ref (D.2.2 53)] q9 (ok_X12_ofDebt hq9) q_1533 q_1535 q_94 q_1536 q_153 hd_X12_ofDebt (ce_51 D dy _) kc12.1 rfl ⟨Nat.le_of_ble_eq_true rfl, Nat.le_of_ble_eq_true rfl⟩ rfl rfl (Nat.le_of_ble_eq_true rfl) dX12_lengthOf_9 ?_
    refine r_iadd dX12_lengthOf_12 ?_
    obtain ⟨c1, h⟩ := g_ite h
    refine al_53 (k_b_in c1) dX12_lengthOf_13 ?_
    cases h
    exact r_iret rfl dX12_lengthOf_14 ⟨rfl, rfl, rfl⟩
theorem ok_X12_lengthOf {D : k_D} {dy : Nat → Nat} {x1 : Int32} {S : St} {out : Int32 × St} (h : f_X12_lengthOf x1 S = some out) : Sp yX12_lengthOf cX12_lengthOf 2 (some .int) (k_rm 1) D dy S [.ref (D.2.2 51), .int x1] (k_Pi dy out) := Sp.of (by decide +kernel) (Nat.le_of_ble_eq_true rfl) (w_X12_lengthOf_0 _ S out h)
noncomputable def f_X12_tune (x1 : Int32) (S : St) : Option (Int32 × St) := k_let (sI S 33 (0 : Int32)) fun S1 => (f_X12_in x1.toInt64 (1 : Int64) (30 : Int64) S1).bind fun q11 => if q11.1 = 0 then (f_X12_tell (-1 : Int32) q11.2).bind fun q19 => some (q19.1, q19.2) else if k_b (0 : Int32) 5560 = true then if (gA q11.2 53 (0 : Int32).toNatClampNeg) = (6 : Int32) then (f_X12_tell (-5 : Int32) q11.2).bind fun q39 => some (q39.1, q39.2) else if k_b ((8 : Int32) + (gA q11.2 53 (0 : Int32).toNatClampNeg)) 5560 = true then k_let (sA q11.2 53 ((8 : Int32) + (gA q11.2 53 (0 : Int32).toNatClampNeg)).toNatClampNeg x1) fun S4 => if k_b (0 : Int32) 5560 = true then if k_b (0 : Int32) 5560 = true then k_let (sA S4 53 (0 : Int32).toNatClampNeg ((gA S4 53 (0 : Int32).toNatClampNeg) + (1 : Int32))) fun S7 => (f_X12_tell (gA q11.2 53 (0 : Int32).toNatClampNeg) S7).bind fun q65 => some (q65.1, q65.2) else none else none else none else none
set_option maxRecDepth 100000 in
set_option maxHeartbeats 4000000 in
theorem w_X12_tune_0 {D : k_D} {dy : Nat → Nat} (x1 : Int32) (S : St) (out : Int32 × St) (h : f_X12_tune x1 S = some out) : Rn yX12_tune cX12_tune 3 (some .int) (k_rm 1) 0 0 D dy S (k_Pi dy out) 0 [(0, .ref (D.2.2 51)), (1, .int x1)] [] := by
    unfold f_X12_tune at h
    refine r_aload_n 0 dX12_tune_0 rfl rfl ?_
    refine r_iconst (v := 0) dX12_tune_1 rfl ?_
    refine pf_51_0 q_1311 dX12_tune_2 ?_
    generalize sI S 33 (0 : Int32) = S1 at h ⊢
    replace h := g_let h
    refine r_iload_n 1 dX12_tune_5 rfl rfl ?_
    refine r_i2l dX12_tune_6 ?_
    refine r_lconst (v := 1) dX12_tune_7 rfl ?_
    refine r_ldc2 (v := 30) q_1496 dX12_tune_8 ?_
    obtain ⟨q11, hq11, h⟩ := g_bind h
    refine r_callSi [.long x1.toInt64, .long (1 : Int64), .long (30 : Int64)] [] q11 (ok_X12_in hq11) q_1481 q_1482 q_1483 q_153 hd_X12_in ⟨Nat.le_of_ble_eq_true rfl, Nat.le_of_ble_eq_true rfl⟩ rfl rfl (Nat.le_of_ble_eq_true rfl) dX12_tune_11 ?_
    refine r_if_ne (t := 23) dX12_tune_14 (by decide) (fun c => ?_) (fun c => ?_)
    · rw [if_neg c] at h
      refine r_aload_n 0 dX12_tune_23 rfl rfl ?_
      refine gf_51_3 q_1314 dX12_tune_24 ?_
      refine r_iconst (v := 0) dX12_tune_27 rfl ?_
      obtain ⟨c2, h⟩ := g_ite h
      refine al_53 (k_b_in c2) dX12_tune_28 ?_
      refine r_istore_n dX12_tune_29 rfl (by decide) rfl ?_
      refine r_iload_n 0 dX12_tune_30 rfl rfl ?_
      refine r_bipush (v := 6) dX12_tune_31 rfl ?_
      refine r_icmp_ne (t := 43) dX12_tune_33 (by decide) (fun c => ?_) (fun c => ?_)
      · rw [if_neg c] at h
        refine r_aload_n 1 dX12_tune_43 rfl rfl ?_
        refine gf_51_3 q_1314 dX12_tune_44 ?_
        refine r_bipush (v := 8) dX12_tune_47 rfl ?_
        refine r_iload_n 0 dX12_tune_49 rfl rfl ?_
        refine r_iadd dX12_tune_50 ?_
        refine r_iload_n 2 dX12_tune_51 rfl rfl ?_
        obtain ⟨c3, h⟩ := g_ite h
        refine as_53 (k_b_in c3) dX12_tune_52 ?_
        generalize sA q11.2 53 ((8 : Int32) + (gA q11.2 53 (0 : Int32).toNatClampNeg)).toNatClampNeg x1 = S4 at h ⊢
        replace h := g_let h
        refine r_aload_n 1 dX12_tune_53 rfl rfl ?_
        refine gf_51_3 q_1314 dX12_tune_54 ?_
        refine r_iconst (v := 0) dX12_tune_57 rfl ?_
        refine r_dup2 dX12_tune_58 rfl rfl ?_
        obtain ⟨c5, h⟩ := g_ite h
        refine al_53 (k_b_in c5) dX12_tune_59 ?_
        refine r_iconst (v := 1) dX12_tune_60 rfl ?_
        refine r_iadd dX12_tune_61 ?_
        obtain ⟨c6, h⟩ := g_ite h
        refine as_53 (k_b_in c6) dX12_tune_62 ?_
        generalize sA S4 53 (0 : Int32).toNatClampNeg ((gA S4 53 (0 : Int32).toNatClampNeg) + (1 : Int32)) = S7 at h ⊢
        replace h := g_let h
        refine r_aload_n 1 dX12_tune_63 rfl rfl ?_
        refine r_iload_n 0 dX12_tune_64 rfl rfl ?_
        obtain ⟨q65, hq65, h⟩ := g_bind h
        refine r_callVi [.int (gA q11.2 53 (0 : Int32).toNatClampNeg)] [] q65 (ok_X12_tell hq65) q_1484 q_1486 q_89 q_1487 q_153 hd_X12_tell (ce_51 D dy _) kc12.1 rfl ⟨Nat.le_of_ble_eq_true rfl, Nat.le_of_ble_eq_true rfl⟩ rfl rfl (Nat.le_of_ble_eq_true rfl) dX12_tune_65 ?_
        cases h
        exact r_iret rfl dX12_tune_68 ⟨rfl, rfl, rfl⟩
      · rw [if_pos c] at h
        refine r_aload_n 1 dX12_tune_36 rfl rfl ?_
        refine r_bipush (v := -5) dX12_tune_37 rfl ?_
        obtain ⟨q39, hq39, h⟩ := g_bind h
        refine r_callVi [.int (-5 : Int32)] [] q39 (ok_X12_tell hq39) q_1484 q_1486 q_89 q_1487 q_153 hd_X12_tell (ce_51 D dy _) kc12.1 rfl ⟨Nat.le_of_ble_eq_true rfl, Nat.le_of_ble_eq_true rfl⟩ rfl rfl (Nat.le_of_ble_eq_true rfl) dX12_tune_39 ?_
        cases h
        exact r_iret rfl dX12_tune_42 ⟨rfl, rfl, rfl⟩
    · rw [if_pos c] at h
      refine r_aload_n 0 dX12_tune_17 rfl rfl ?_
      refine r_iconst (v := -1) dX12_tune_18 rfl ?_
      obtain ⟨q19, hq19, h⟩ := g_bind h
      refine r_callVi [.int (-1 : Int32)] [] q19 (ok_X12_tell hq19) q_1484 q_1486 q_89 q_1487 q_153 hd_X12_tell (ce_51 D dy _) kc12.1 rfl ⟨Nat.le_of_ble_eq_true rfl, Nat.le_of_ble_eq_true rfl⟩ rfl rfl (Nat.le_of_ble_eq_true rfl) dX12_tune_19 ?_
      cases h
      exact r_iret rfl dX12_tune_22 ⟨rfl, rfl, rfl⟩
theorem ok_X12_tune {D : k_D} {dy : Nat → Nat} {x1 : Int32} {S : St} {out : Int32 × St} (h : f_X12_tune x1 S = some out) : Sp yX12_tune cX12_tune 3 (some .int) (k_rm 1) D dy S [.ref (D.2.2 51), .int x1] (k_Pi dy out) := Sp.of (by decide +kernel) (Nat.le_of_ble_eq_true rfl) (w_X12_tune_0 _ S out h)
noncomputable def f_X12_length_26 (s0 : Int32) (S : St) : Option (Int32 × St) := some (s0, S)
noncomputable def f_X12_length (x1 : Int32) (S : St) : Option (Int32 × St) := k_let (sI S 33 (0 : Int32)) fun S1 => (f_X12_isTune x1 S1).bind fun q7 => if q7.1 = 0 then f_X12_length_26 (-1 : Int32) q7.2 else if k_b ((8 : Int32) + x1) 5560 = true then f_X12_length_26 (gA q7.2 53 ((8 : Int32) + x1).toNatClampNeg) q7.2 else none
set_option maxRecDepth 100000 in
set_option maxHeartbeats 4000000 in
theorem w_X12_length_26 {D : k_D} {dy : Nat → Nat} (s0 : Int32) (S : St) (out : Int32 × St) (h : f_X12_length_26 s0 S = some out) : Rn yX12_length cX12_length 2 (some .int) (k_rm 2) 0 0 D dy S (k_Pi dy out) 26 [] [.int s0] := by
    unfold f_X12_length_26 at h
    cases h
    exact r_iret rfl dX12_length_26 ⟨rfl, rfl, rfl⟩
set_option maxRecDepth 100000 in
set_option maxHeartbeats 4000000 in
theorem w_X12_length_0 {D : k_D} {dy : Nat → Nat} (x1 : Int32) (S : St) (out : Int32 × St) (h : f_X12_length x1 S = some out) : Rn yX12_length cX12_length 2 (some .int) (k_rm 2) 0 0 D dy S (k_Pi dy out) 0 [(0, .ref (D.2.2 51)), (1, .int x1)] [] := by
    unfold f_X12_length at h
    refine r_aload_n 0 dX12_length_0 rfl rfl ?_
    refine r_iconst (v := 0) dX12_length_1 rfl ?_
    refine pf_51_0 q_1311 dX12_length_2 ?_
    generalize sI S 33 (0 : Int32) = S1 at h ⊢
    replace h := g_let h
    refine r_aload_n 0 dX12_length_5 rfl rfl ?_
    refine r_iload_n 1 dX12_length_6 rfl rfl ?_
    obtain ⟨q7, hq7, h⟩ := g_bind h
    refine r_callVi [.int x1] [] q7 (ok_X12_isTune hq7) q_1501 q_1503 q_90 q_1504 q_153 hd_X12_isTune (ce_51 D dy _) kc12.1 rfl ⟨Nat.le_of_ble_eq_true rfl, Nat.le_of_ble_eq_true rfl⟩ rfl rfl (Nat.le_of_ble_eq_true rfl) dX12_length_7 ?_
    refine r_if_eq (t := 25) dX12_length_10 (by decide) (fun c => ?_) (fun c => ?_)
    · rw [if_pos c] at h
      refine r_iconst (v := -1) dX12_length_25 rfl ?_
      refine r_sub [] rfl ?_
      exact w_X12_length_26 _ _ _ h
    · rw [if_neg c] at h
      refine r_aload_n 0 dX12_length_13 rfl rfl ?_
      refine gf_51_3 q_1314 dX12_length_14 ?_
      refine r_bipush (v := 8) dX12_length_17 rfl ?_
      refine r_iload_n 1 dX12_length_19 rfl rfl ?_
      refine r_iadd dX12_length_20 ?_
      obtain ⟨c2, h⟩ := g_ite h
      refine al_53 (k_b_in c2) dX12_length_21 ?_
      refine r_goto (t := 26) dX12_length_22 (by decide) ?_
      refine r_sub [] rfl ?_
      exact w_X12_length_26 _ _ _ h
theorem ok_X12_length {D : k_D} {dy : Nat → Nat} {x1 : Int32} {S : St} {out : Int32 × St} (h : f_X12_length x1 S = some out) : Sp yX12_length cX12_length 2 (some .int) (k_rm 2) D dy S [.ref (D.2.2 51), .int x1] (k_Pi dy out) := Sp.of (by decide +kernel) (Nat.le_of_ble_eq_true rfl) (w_X12_length_0 _ S out h)
noncomputable def f_X12_canOwe_36 (s0 : Int32) (S : St) : Option (Int32 × St) := if s0 = 0 ∨ s0 = 1 then some (s0, S) else none
noncomputable def f_X12_canOwe_35 (S : St) : Option (Int32 × St) := f_X12_canOwe_36 (0 : Int32) S
noncomputable def f_X12_canOwe (x0 : Int32) (x1 : Int32) (x2 : Int32) (S : St) : Option (Int32 × St) := (f_X12_isDancer x0 S).bind fun q1 => if q1.1 = 0 then f_X12_canOwe_35 q1.2 else (f_X12_isDancer x1 q1.2).bind fun q8 => if q8.1 = 0 then f_X12_canOwe_35 q8.2 else if x0 = x1 then f_X12_canOwe_35 q8.2 else (f_X12_in x2.toInt64 (1 : Int64) (9 : Int64) q8.2).bind fun q25 => if q25.1 = 0 then f_X12_canOwe_35 q25.2 else f_X12_canOwe_36 (1 : Int32) q25.2
set_option maxRecDepth 100000 in
set_option maxHeartbeats 4000000 in
theorem w_X12_canOwe_36 {D : k_D} {dy : Nat → Nat} (s0 : Int32) (S : St) (out : Int32 × St) (h : f_X12_canOwe_36 s0 S = some out) : Rn yX12_canOwe cX12_canOwe 3 (some .boolean) (k_rm 2) 0 0 D dy S (k_Pi dy out) 36 [] [.int s0] := by
    unfold f_X12_canOwe_36 at h
    obtain ⟨c, h⟩ := g_ite h
    cases h
    exact r_zret rfl (k_zn c) dX12_canOwe_36 ⟨rfl, rfl, rfl⟩
set_option maxRecDepth 100000 in
set_option maxHeartbeats 4000000 in
theorem w_X12_canOwe_35 {D : k_D} {dy : Nat → Nat} (S : St) (out : Int32 × St) (h : f_X12_canOwe_35 S = some out) : Rn yX12_canOwe cX12_canOwe 3 (some .boolean) (k_rm 2) 0 0 D dy S (k_Pi dy out) 35 [] [] := by
    unfold f_X12_canOwe_35 at h
    refine r_iconst (v := 0) dX12_canOwe_35 rfl ?_
    exact w_X12_canOwe_36 _ _ _ h
set_option maxRecDepth 100000 in
set_option maxHeartbeats 4000000 in
theorem w_X12_canOwe_0 {D : k_D} {dy : Nat → Nat} (x0 : Int32) (x1 : Int32) (x2 : Int32) (S : St) (out : Int32 × St) (h : f_X12_canOwe x0 x1 x2 S = some out) : Rn yX12_canOwe cX12_canOwe 3 (some .boolean) (k_rm 2) 0 0 D dy S (k_Pi dy out) 0 [(0, .int x0), (1, .int x1), (2, .int x2)] [] := by
    unfold f_X12_canOwe at h
    refine r_iload_n 0 dX12_canOwe_0 rfl rfl ?_
    obtain ⟨q1, hq1, h⟩ := g_bind h
    refine r_callSi [.int x0] [] q1 (ok_X12_isDancer hq1) q_1512 q_1513 q_1514 q_153 hd_X12_isDancer ⟨Nat.le_of_ble_eq_true rfl, Nat.le_of_ble_eq_true rfl⟩ rfl rfl (Nat.le_of_ble_eq_true rfl) dX12_canOwe_1 ?_
    refine r_if_eq (t := 35) dX12_canOwe_4 (by decide) (fun c => ?_) (fun c => ?_)
    · rw [if_pos c] at h
      refine r_sub [] rfl ?_
      exact w_X12_canOwe_35 _ _ h
    · rw [if_neg c] at h
      refine r_iload_n 1 dX12_canOwe_7 rfl rfl ?_
      obtain ⟨q8, hq8, h⟩ := g_bind h
      refine r_callSi [.int x1] [] q8 (ok_X12_isDancer hq8) q_1512 q_1513 q_1514 q_153 hd_X12_isDancer ⟨Nat.le_of_ble_eq_true rfl, Nat.le_of_ble_eq_true rfl⟩ rfl rfl (Nat.le_of_ble_eq_true rfl) dX12_canOwe_8 ?_
      refine r_if_eq (t := 35) dX12_canOwe_11 (by decide) (fun c => ?_) (fun c => ?_)
      · rw [if_pos c] at h
        refine r_sub [] rfl ?_
        exact w_X12_canOwe_35 _ _ h
      · rw [if_neg c] at h
        refine r_iload_n 0 dX12_canOwe_14 rfl rfl ?_
        refine r_iload_n 1 dX12_canOwe_15 rfl rfl ?_
        refine r_icmp_eq (t := 35) dX12_canOwe_16 (by decide) (fun c => ?_) (fun c => ?_)
        · rw [if_pos c] at h
          refine r_sub [] rfl ?_
          exact w_X12_canOwe_35 _ _ h
        · rw [if_neg c] at h
          refine r_iload_n 2 dX12_canOwe_19 rfl rfl ?_
          refine r_i2l dX12_canOwe_20 ?_
          refine r_lconst (v := 1) dX12_canOwe_21 rfl ?_
          refine r_ldc2 (v := 9) q_1516 dX12_canOwe_22 ?_
          obtain ⟨q25, hq25, h⟩ := g_bind h
          refine r_callSi [.long x2.toInt64, .long (1 : Int64), .long (9 : Int64)] [] q25 (ok_X12_in hq25) q_1481 q_1482 q_1483 q_153 hd_X12_in ⟨Nat.le_of_ble_eq_true rfl, Nat.le_of_ble_eq_true rfl⟩ rfl rfl (Nat.le_of_ble_eq_true rfl) dX12_canOwe_25 ?_
          refine r_if_eq (t := 35) dX12_canOwe_28 (by decide) (fun c => ?_) (fun c => ?_)
          · rw [if_pos c] at h
            refine r_sub [] rfl ?_
            exact w_X12_canOwe_35 _ _ h
          · rw [if_neg c] at h
            refine r_iconst (v := 1) dX12_canOwe_31 rfl ?_
            refine r_goto (t := 36) dX12_canOwe_32 (by decide) ?_
            refine r_sub [] rfl ?_
            exact w_X12_canOwe_36 _ _ _ h
theorem ok_X12_canOwe {D : k_D} {dy : Nat → Nat} {x0 : Int32} {x1 : Int32} {x2 : Int32} {S : St} {out : Int32 × St} (h : f_X12_canOwe x0 x1 x2 S = some out) : Sp yX12_canOwe cX12_canOwe 3 (some .boolean) (k_rm 2) D dy S [.int x0, .int x1, .int x2] (k_Pi dy out) := Sp.of (by decide +kernel) (Nat.le_of_ble_eq_true rfl) (w_X12_canOwe_0 _ _ _ S out h)
noncomputable def f_X12_addDebt (x1 : Int32) (x2 : Int32) (x3 : Int32) (x4 : Int32) (S : St) : Option (St) := (f_X12_debts S).bind fun q4 => if k_b ((14 : Int32) + ((5 : Int32) * q4.1)) 5560 = true then k_let (sA q4.2 53 ((14 : Int32) + ((5 : Int32) * q4.1)).toNatClampNeg x1) fun S2 => if k_b (((14 : Int32) + ((5 : Int32) * q4.1)) + (1 : Int32)) 5560 = true then k_let (sA S2 53 (((14 : Int32) + ((5 : Int32) * q4.1)) + (1 : Int32)).toNatClampNeg x2) fun S4 => if k_b (((14 : Int32) + ((5 : Int32) * q4.1)) + (2 : Int32)) 5560 = true then k_let (sA S4 53 (((14 : Int32) + ((5 : Int32) * q4.1)) + (2 : Int32)).toNatClampNeg x3) fun S6 => if k_b (((14 : Int32) + ((5 : Int32) * q4.1)) + (3 : Int32)) 5560 = true then k_let (sA S6 53 (((14 : Int32) + ((5 : Int32) * q4.1)) + (3 : Int32)).toNatClampNeg x4) fun S8 => if k_b (7 : Int32) 5560 = true then if k_b (((14 : Int32) + ((5 : Int32) * q4.1)) + (4 : Int32)) 5560 = true then k_let (sA S8 53 (((14 : Int32) + ((5 : Int32) * q4.1)) + (4 : Int32)).toNatClampNeg (gA S8 53 (7 : Int32).toNatClampNeg)) fun S11 => if k_b (1 : Int32) 5560 = true then if k_b (1 : Int32) 5560 = true then k_let (sA S11 53 (1 : Int32).toNatClampNeg ((gA S11 53 (1 : Int32).toNatClampNeg) + (1 : Int32))) fun S14 => some S14 else none else none else none else none else none else none else none else none
set_option maxRecDepth 100000 in
set_option maxHeartbeats 4000000 in
theorem w_X12_addDebt_0 {D : k_D} {dy : Nat → Nat} (x1 : Int32) (x2 : Int32) (x3 : Int32) (x4 : Int32) (S : St) (out : St) (h : f_X12_addDebt x1 x2 x3 x4 S = some out) : Rn yX12_addDebt cX12_addDebt 6 none (k_rm 1) 0 0 D dy S (k_Pv dy out) 0 [(0, .ref (D.2.2 51)), (1, .int x1), (2, .int x2), (3, .int x3), (4, .int x4)] [] := by
    unfold f_X12_addDebt at h
    refine r_bipush (v := 14) dX12_addDebt_0 rfl ?_
    refine r_iconst (v := 5) dX12_addDebt_2 rfl ?_
    refine r_aload_n 0 dX12_addDebt_3 rfl rfl ?_
    obtain ⟨q4, hq4, h⟩ := g_bind h
    refine r_callVi [] [.int (5 : Int32), .int (14 : Int32)] q4 (ok_X12_debts hq4) q_1517 q_1519 q_91 q_1520 q_153 hd_X12_debts (ce_51 D dy _) kc12.1 rfl ⟨Nat.le_of_ble_eq_true rfl, Nat.le_of_ble_eq_true rfl⟩ rfl rfl (Nat.le_of_ble_eq_true rfl) dX12_addDebt_4 ?_
    refine r_imul dX12_addDebt_7 ?_
    refine r_iadd dX12_addDebt_8 ?_
    refine r_istore dX12_addDebt_9 (by decide) rfl ?_
    refine r_aload_n 1 dX12_addDebt_11 rfl rfl ?_
    refine gf_51_3 q_1314 dX12_addDebt_12 ?_
    refine r_iload 0 dX12_addDebt_15 rfl ?_
    refine r_iload_n 2 dX12_addDebt_17 rfl rfl ?_
    obtain ⟨c1, h⟩ := g_ite h
    refine as_53 (k_b_in c1) dX12_addDebt_18 ?_
    generalize sA q4.2 53 ((14 : Int32) + ((5 : Int32) * q4.1)).toNatClampNeg x1 = S2 at h ⊢
    replace h := g_let h
    refine r_aload_n 1 dX12_addDebt_19 rfl rfl ?_
    refine gf_51_3 q_1314 dX12_addDebt_20 ?_
    refine r_iload 0 dX12_addDebt_23 rfl ?_
    refine r_iconst (v := 1) dX12_addDebt_25 rfl ?_
    refine r_iadd dX12_addDebt_26 ?_
    refine r_iload_n 3 dX12_addDebt_27 rfl rfl ?_
    obtain ⟨c3, h⟩ := g_ite h
    refine as_53 (k_b_in c3) dX12_addDebt_28 ?_
    generalize sA S2 53 (((14 : Int32) + ((5 : Int32) * q4.1)) + (1 : Int32)).toNatClampNeg x2 = S4 at h ⊢
    replace h := g_let h
    refine r_aload_n 1 dX12_addDebt_29 rfl rfl ?_
    refine gf_51_3 q_1314 dX12_addDebt_30 ?_
    refine r_iload 0 dX12_addDebt_33 rfl ?_
    refine r_iconst (v := 2) dX12_addDebt_35 rfl ?_
    refine r_iadd dX12_addDebt_36 ?_
    refine r_iload_n 4 dX12_addDebt_37 rfl rfl ?_
    obtain ⟨c5, h⟩ := g_ite h
    refine as_53 (k_b_in c5) dX12_addDebt_38 ?_
    generalize sA S4 53 (((14 : Int32) + ((5 : Int32) * q4.1)) + (2 : Int32)).toNatClampNeg x3 = S6 at h ⊢
    replace h := g_let h
    refine r_aload_n 1 dX12_addDebt_39 rfl rfl ?_
    refine gf_51_3 q_1314 dX12_addDebt_40 ?_
    refine r_iload 0 dX12_addDebt_43 rfl ?_
    refine r_iconst (v := 3) dX12_addDebt_45 rfl ?_
    refine r_iadd dX12_addDebt_46 ?_
    refine r_iload 5 dX12_addDebt_47 rfl ?_
    obtain ⟨c7, h⟩ := g_ite h
    refine as_53 (k_b_in c7) dX12_addDebt_49 ?_
    generalize sA S6 53 (((14 : Int32) + ((5 : Int32) * q4.1)) + (3 : Int32)).toNatClampNeg x4 = S8 at h ⊢
    replace h := g_let h
    refine r_aload_n 1 dX12_addDebt_50 rfl rfl ?_
    refine gf_51_3 q_1314 dX12_addDebt_51 ?_
    refine r_iload 0 dX12_addDebt_54 rfl ?_
    refine r_iconst (v := 4) dX12_addDebt_56 rfl ?_
    refine r_iadd dX12_addDebt_57 ?_
    refine r_aload_n 1 dX12_addDebt_58 rfl rfl ?_
    refine gf_51_3 q_1314 dX12_addDebt_59 ?_
    refine r_bipush (v := 7) dX12_addDebt_62 rfl ?_
    obtain ⟨c9, h⟩ := g_ite h
    refine al_53 (k_b_in c9) dX12_addDebt_64 ?_
    obtain ⟨c10, h⟩ := g_ite h
    refine as_53 (k_b_in c10) dX12_addDebt_65 ?_
    generalize sA S8 53 (((14 : Int32) + ((5 : Int32) * q4.1)) + (4 : Int32)).toNatClampNeg (gA S8 53 (7 : Int32).toNatClampNeg) = S11 at h ⊢
    replace h := g_let h
    refine r_aload_n 1 dX12_addDebt_66 rfl rfl ?_
    refine gf_51_3 q_1314 dX12_addDebt_67 ?_
    refine r_iconst (v := 1) dX12_addDebt_70 rfl ?_
    refine r_dup2 dX12_addDebt_71 rfl rfl ?_
    obtain ⟨c12, h⟩ := g_ite h
    refine al_53 (k_b_in c12) dX12_addDebt_72 ?_
    refine r_iconst (v := 1) dX12_addDebt_73 rfl ?_
    refine r_iadd dX12_addDebt_74 ?_
    obtain ⟨c13, h⟩ := g_ite h
    refine as_53 (k_b_in c13) dX12_addDebt_75 ?_
    generalize sA S11 53 (1 : Int32).toNatClampNeg ((gA S11 53 (1 : Int32).toNatClampNeg) + (1 : Int32)) = S14 at h ⊢
    replace h := g_let h
    exact r_vret rfl dX12_addDebt_76 ⟨rfl, rfl, Option.some.inj h⟩
theorem ok_X12_addDebt {D : k_D} {dy : Nat → Nat} {x1 : Int32} {x2 : Int32} {x3 : Int32} {x4 : Int32} {S : St} {out : St} (h : f_X12_addDebt x1 x2 x3 x4 S = some out) : Sp yX12_addDebt cX12_addDebt 6 none (k_rm 1) D dy S [.ref (D.2.2 51), .int x1, .int x2, .int x3, .int x4] (k_Pv dy out) := Sp.of (by decide +kernel) (Nat.le_of_ble_eq_true rfl) (w_X12_addDebt_0 _ _ _ _ S out h)
noncomputable def f_X12_owe (x1 : Int32) (x2 : Int32) (x3 : Int32) (x4 : Int32) (S : St) : Option (Int32 × St) := k_let (sI S 33 (0 : Int32)) fun S1 => (f_X12_canOwe x1 x2 x4 S1).bind fun q9 => if q9.1 = 0 then (f_X12_tell (-1 : Int32) q9.2).bind fun q17 => some (q17.1, q17.2) else (f_X12_isTune x3 q9.2).bind fun q23 => if q23.1 = 0 then (f_X12_tell (-2 : Int32) q23.2).bind fun q32 => some (q32.1, q32.2) else (f_X12_debts q23.2).bind fun q37 => if q37.1 = (16 : Int32) then (f_X12_tell (-5 : Int32) q37.2).bind fun q48 => some (q48.1, q48.2) else (f_X12_addDebt x1 x2 x3 x4 q37.2).bind fun q58 => (f_X12_debts q58).bind fun q63 => (f_X12_tell (q63.1 - (1 : Int32)) q63.2).bind fun q68 => some (q68.1, q68.2)
set_option maxRecDepth 100000 in
set_option maxHeartbeats 4000000 in
theorem w_X12_owe_0 {D : k_D} {dy : Nat → Nat} (x1 : Int32) (x2 : Int32) (x3 : Int32) (x4 : Int32) (S : St) (out : Int32 × St) (h : f_X12_owe x1 x2 x3 x4 S = some out) : Rn yX12_owe cX12_owe 5 (some .int) (k_rm 3) 0 0 D dy S (k_Pi dy out) 0 [(0, .ref (D.2.2 51)), (1, .int x1), (2, .int x2), (3, .int x3), (4, .int x4)] [] := by
    unfold f_X12_owe at h
    refine r_aload_n 0 dX12_owe_0 rfl rfl ?_
    refine r_iconst (v := 0) dX12_owe_1 rfl ?_
    refine pf_51_0 q_1311 dX12_owe_2 ?_
    generalize sI S 33 (0 : Int32) = S1 at h ⊢
    replace h := g_let h
    refine r_iload_n 1 dX12_owe_5 rfl rfl ?_
    refine r_iload_n 2 dX12_owe_6 rfl rfl ?_
    refine r_iload 4 dX12_owe_7 rfl ?_
    obtain ⟨q9, hq9, h⟩ := g_bind h
    refine r_callSi [.int x1, .int x2, .int x4] [] q9 (ok_X12_canOwe hq9) q_1509 q_1510 q_1511 q_153 hd_X12_canOwe ⟨Nat.le_of_ble_eq_true rfl, Nat.le_of_ble_eq_true rfl⟩ rfl rfl (Nat.le_of_ble_eq_true rfl) dX12_owe_9 ?_
    refine r_if_ne (t := 21) dX12_owe_12 (by decide) (fun c => ?_) (fun c => ?_)
    · rw [if_neg c] at h
      refine r_aload_n 0 dX12_owe_21 rfl rfl ?_
      refine r_iload_n 3 dX12_owe_22 rfl rfl ?_
      obtain ⟨q23, hq23, h⟩ := g_bind h
      refine r_callVi [.int x3] [] q23 (ok_X12_isTune hq23) q_1501 q_1503 q_90 q_1504 q_153 hd_X12_isTune (ce_51 D dy _) kc12.1 rfl ⟨Nat.le_of_ble_eq_true rfl, Nat.le_of_ble_eq_true rfl⟩ rfl rfl (Nat.le_of_ble_eq_true rfl) dX12_owe_23 ?_
      refine r_if_ne (t := 36) dX12_owe_26 (by decide) (fun c => ?_) (fun c => ?_)
      · rw [if_neg c] at h
        refine r_aload_n 0 dX12_owe_36 rfl rfl ?_
        obtain ⟨q37, hq37, h⟩ := g_bind h
        refine r_callVi [] [] q37 (ok_X12_debts hq37) q_1517 q_1519 q_91 q_1520 q_153 hd_X12_debts (ce_51 D dy _) kc12.1 rfl ⟨Nat.le_of_ble_eq_true rfl, Nat.le_of_ble_eq_true rfl⟩ rfl rfl (Nat.le_of_ble_eq_true rfl) dX12_owe_37 ?_
        refine r_bipush (v := 16) dX12_owe_40 rfl ?_
        refine r_icmp_ne (t := 52) dX12_owe_42 (by decide) (fun c => ?_) (fun c => ?_)
        · rw [if_neg c] at h
          refine r_aload_n 0 dX12_owe_52 rfl rfl ?_
          refine r_iload_n 1 dX12_owe_53 rfl rfl ?_
          refine r_iload_n 2 dX12_owe_54 rfl rfl ?_
          refine r_iload_n 3 dX12_owe_55 rfl rfl ?_
          refine r_iload 4 dX12_owe_56 rfl ?_
          obtain ⟨q58, hq58, h⟩ := g_bind h
          refine r_callVv [.int x1, .int x2, .int x3, .int x4] [] q58 (ok_X12_addDebt hq58) q_1521 q_1523 q_92 q_1524 q_153 hd_X12_addDebt (ce_51 D dy _) kc12.1 rfl ⟨Nat.le_of_ble_eq_true rfl, Nat.le_of_ble_eq_true rfl⟩ rfl rfl (Nat.le_of_ble_eq_true rfl) dX12_owe_58 ?_
          refine r_aload_n 0 dX12_owe_61 rfl rfl ?_
          refine r_aload_n 0 dX12_owe_62 rfl rfl ?_
          obtain ⟨q63, hq63, h⟩ := g_bind h
          refine r_callVi [] [.ref (D.2.2 51)] q63 (ok_X12_debts hq63) q_1517 q_1519 q_91 q_1520 q_153 hd_X12_debts (ce_51 D dy _) kc12.1 rfl ⟨Nat.le_of_ble_eq_true rfl, Nat.le_of_ble_eq_true rfl⟩ rfl rfl (Nat.le_of_ble_eq_true rfl) dX12_owe_63 ?_
          refine r_iconst (v := 1) dX12_owe_66 rfl ?_
          refine r_isub dX12_owe_67 ?_
          obtain ⟨q68, hq68, h⟩ := g_bind h
          refine r_callVi [.int (q63.1 - (1 : Int32))] [] q68 (ok_X12_tell hq68) q_1484 q_1486 q_89 q_1487 q_153 hd_X12_tell (ce_51 D dy _) kc12.1 rfl ⟨Nat.le_of_ble_eq_true rfl, Nat.le_of_ble_eq_true rfl⟩ rfl rfl (Nat.le_of_ble_eq_true rfl) dX12_owe_68 ?_
          cases h
          exact r_iret rfl dX12_owe_71 ⟨rfl, rfl, rfl⟩
        · rw [if_pos c] at h
          refine r_aload_n 0 dX12_owe_45 rfl rfl ?_
          refine r_bipush (v := -5) dX12_owe_46 rfl ?_
          obtain ⟨q48, hq48, h⟩ := g_bind h
          refine r_callVi [.int (-5 : Int32)] [] q48 (ok_X12_tell hq48) q_1484 q_1486 q_89 q_1487 q_153 hd_X12_tell (ce_51 D dy _) kc12.1 rfl ⟨Nat.le_of_ble_eq_true rfl, Nat.le_of_ble_eq_true rfl⟩ rfl rfl (Nat.le_of_ble_eq_true rfl) dX12_owe_48 ?_
          cases h
          exact r_iret rfl dX12_owe_51 ⟨rfl, rfl, rfl⟩
      · rw [if_pos c] at h
        refine r_aload_n 0 dX12_owe_29 rfl rfl ?_
        refine r_bipush (v := -2) dX12_owe_30 rfl ?_
        obtain ⟨q32, hq32, h⟩ := g_bind h
        refine r_callVi [.int (-2 : Int32)] [] q32 (ok_X12_tell hq32) q_1484 q_1486 q_89 q_1487 q_153 hd_X12_tell (ce_51 D dy _) kc12.1 rfl ⟨Nat.le_of_ble_eq_true rfl, Nat.le_of_ble_eq_true rfl⟩ rfl rfl (Nat.le_of_ble_eq_true rfl) dX12_owe_32 ?_
        cases h
        exact r_iret rfl dX12_owe_35 ⟨rfl, rfl, rfl⟩
    · rw [if_pos c] at h
      refine r_aload_n 0 dX12_owe_15 rfl rfl ?_
      refine r_iconst (v := -1) dX12_owe_16 rfl ?_
      obtain ⟨q17, hq17, h⟩ := g_bind h
      refine r_callVi [.int (-1 : Int32)] [] q17 (ok_X12_tell hq17) q_1484 q_1486 q_89 q_1487 q_153 hd_X12_tell (ce_51 D dy _) kc12.1 rfl ⟨Nat.le_of_ble_eq_true rfl, Nat.le_of_ble_eq_true rfl⟩ rfl rfl (Nat.le_of_ble_eq_true rfl) dX12_owe_17 ?_
      cases h
      exact r_iret rfl dX12_owe_20 ⟨rfl, rfl, rfl⟩
theorem ok_X12_owe {D : k_D} {dy : Nat → Nat} {x1 : Int32} {x2 : Int32} {x3 : Int32} {x4 : Int32} {S : St} {out : Int32 × St} (h : f_X12_owe x1 x2 x3 x4 S = some out) : Sp yX12_owe cX12_owe 5 (some .int) (k_rm 3) D dy S [.ref (D.2.2 51), .int x1, .int x2, .int x3, .int x4] (k_Pi dy out) := Sp.of (by decide +kernel) (Nat.le_of_ble_eq_true rfl) (w_X12_owe_0 _ _ _ _ S out h)
noncomputable def f_X12_sweep_56 (k4 : Int32 → Int32 → St → Option (St)) (x1 : Int32) (x2 : Int32) (S : St) : Option (St) := k4 x1 (x2 + (1 : Int32)) S
noncomputable def f_X12_sweep_23 (k4 : Int32 → Int32 → St → Option (St)) : Nat → Int32 → Int32 → Int32 → St → Option (St)
  | 0, _, _, _, _ => none
  | n + 1, x1, x2, x3, S => if (5 : Int32) ≤ x3 then f_X12_sweep_56 k4 (x1 + (1 : Int32)) x2 S else (f_X12_ofDebt x2 x3 S).bind fun q43 => if k_b (((14 : Int32) + ((5 : Int32) * x1)) + x3) 5560 = true then k_let (sA q43.2 53 (((14 : Int32) + ((5 : Int32) * x1)) + x3).toNatClampNeg q43.1) fun S2 => f_X12_sweep_23 k4 n x1 x2 (x3 + (1 : Int32)) S2 else none
noncomputable def f_X12_sweep_4 : Nat → Int32 → Int32 → St → Option (St)
  | 0, _, _, _ => none
  | n + 1, x1, x2, S => (f_X12_debts S).bind fun q6 => if q6.1 ≤ x2 then if k_b (1 : Int32) 5560 = true then k_let (sA q6.2 53 (1 : Int32).toNatClampNeg x1) fun S2 => some S2 else none else (f_X12_ofDebt x2 (3 : Int32) q6.2).bind fun q15 => if q15.1 ≤ 0 then f_X12_sweep_56 (f_X12_sweep_4 n) x1 x2 q15.2 else f_X12_sweep_23 (f_X12_sweep_4 n) FU x1 x2 (0 : Int32) q15.2
noncomputable def f_X12_sweep (S : St) : Option (St) := f_X12_sweep_4 FU (0 : Int32) (0 : Int32) S
set_option maxRecDepth 100000 in
set_option maxHeartbeats 4000000 in
theorem w_X12_sweep_56 {D : k_D} {dy : Nat → Nat} {k4 : Int32 → Int32 → St → Option (St)} (hk4 : ∀ (x1 : Int32) (x2 : Int32) (S : St) (out : St), k4 x1 x2 S = some out → Rn yX12_sweep cX12_sweep 4 none (k_rm 1) 0 0 D dy S (k_Pv dy out) 4 [(0, .ref (D.2.2 51)), (1, .int x1), (2, .int x2)] []) (x1 : Int32) (x2 : Int32) (S : St) (out : St) (h : f_X12_sweep_56 k4 x1 x2 S = some out) : Rn yX12_sweep cX12_sweep 4 none (k_rm 1) 0 0 D dy S (k_Pv dy out) 56 [(0, .ref (D.2.2 51)), (1, .int x1), (2, .int x2)] [] := by
    unfold f_X12_sweep_56 at h
    refine r_iinc (q := 2) (v := x2 + (1 : Int32)) dX12_sweep_56 rfl rfl (by decide) rfl ?_
    refine r_goto (t := 4) dX12_sweep_59 (by decide) ?_
    refine r_sub [1, 2, 0] rfl ?_
    exact hk4 _ _ _ _ h
set_option maxRecDepth 100000 in
set_option maxHeartbeats 4000000 in
theorem w_X12_sweep_23 {D : k_D} {dy : Nat → Nat} {k4 : Int32 → Int32 → St → Option (St)} (hk4 : ∀ (x1 : Int32) (x2 : Int32) (S : St) (out : St), k4 x1 x2 S = some out → Rn yX12_sweep cX12_sweep 4 none (k_rm 1) 0 0 D dy S (k_Pv dy out) 4 [(0, .ref (D.2.2 51)), (1, .int x1), (2, .int x2)] []) : ∀ (n : Nat) (x1 : Int32) (x2 : Int32) (x3 : Int32) (S : St) (out : St), f_X12_sweep_23 k4 n x1 x2 x3 S = some out → Rn yX12_sweep cX12_sweep 4 none (k_rm 1) 0 0 D dy S (k_Pv dy out) 23 [(0, .ref (D.2.2 51)), (1, .int x1), (2, .int x2), (3, .int x3)] [] := by
  intro n
  induction n with
  | zero => intro x1 x2 x3 S out h; cases h
  | succ n ih =>
    intro x1 x2 x3 S out h
    rw [f_X12_sweep_23] at h
    refine r_iload_n 3 dX12_sweep_23 rfl rfl ?_
    refine r_iconst (v := 5) dX12_sweep_24 rfl ?_
    refine r_icmp_ge (t := 53) dX12_sweep_25 (by decide) (fun c => ?_) (fun c => ?_)
    · rw [if_pos c] at h
      refine r_iinc (q := 1) (v := x1 + (1 : Int32)) dX12_sweep_53 rfl rfl (by decide) rfl ?_
      refine r_sub [1, 0, 2] rfl ?_
      exact w_X12_sweep_56 hk4 _ _ _ _ h
    · rw [if_neg c] at h
      refine r_aload_n 0 dX12_sweep_28 rfl rfl ?_
      refine gf_51_3 q_1314 dX12_sweep_29 ?_
      refine r_bipush (v := 14) dX12_sweep_32 rfl ?_
      refine r_iconst (v := 5) dX12_sweep_34 rfl ?_
      refine r_iload_n 1 dX12_sweep_35 rfl rfl ?_
      refine r_imul dX12_sweep_36 ?_
      refine r_iadd dX12_sweep_37 ?_
      refine r_iload_n 3 dX12_sweep_38 rfl rfl ?_
      refine r_iadd dX12_sweep_39 ?_
      refine r_aload_n 0 dX12_sweep_40 rfl rfl ?_
      refine r_iload_n 2 dX12_sweep_41 rfl rfl ?_
      refine r_iload_n 3 dX12_sweep_42 rfl rfl ?_
      obtain ⟨q43, hq43, h⟩ := g_bind h
      refine r_callVi [.int x2, .int x3] [.int (((14 : Int32) + ((5 : Int32) * x1)) + x3), .ref (D.2.2 53)] q43 (ok_X12_ofDebt hq43) q_1533 q_1535 q_94 q_1536 q_153 hd_X12_ofDebt (ce_51 D dy _) kc12.1 rfl ⟨Nat.le_of_ble_eq_true rfl, Nat.le_of_ble_eq_true rfl⟩ rfl rfl (Nat.le_of_ble_eq_true rfl) dX12_sweep_43 ?_
      obtain ⟨c1, h⟩ := g_ite h
      refine as_53 (k_b_in c1) dX12_sweep_46 ?_
      generalize sA q43.2 53 (((14 : Int32) + ((5 : Int32) * x1)) + x3).toNatClampNeg q43.1 = S2 at h ⊢
      replace h := g_let h
      refine r_iinc (q := 3) (v := x3 + (1 : Int32)) dX12_sweep_47 rfl rfl (by decide) rfl ?_
      refine r_goto (t := 23) dX12_sweep_50 (by decide) ?_
      refine r_sub [1, 2, 3, 0] rfl ?_
      exact ih _ _ _ _ _ h
set_option maxRecDepth 100000 in
set_option maxHeartbeats 4000000 in
theorem w_X12_sweep_4 {D : k_D} {dy : Nat → Nat} : ∀ (n : Nat) (x1 : Int32) (x2 : Int32) (S : St) (out : St), f_X12_sweep_4 n x1 x2 S = some out → Rn yX12_sweep cX12_sweep 4 none (k_rm 1) 0 0 D dy S (k_Pv dy out) 4 [(0, .ref (D.2.2 51)), (1, .int x1), (2, .int x2)] [] := by
  intro n
  induction n with
  | zero => intro x1 x2 S out h; cases h
  | succ n ih =>
    intro x1 x2 S out h
    rw [f_X12_sweep_4] at h
    refine r_iload_n 2 dX12_sweep_4 rfl rfl ?_
    refine r_aload_n 0 dX12_sweep_5 rfl rfl ?_
    obtain ⟨q6, hq6, h⟩ := g_bind h
    refine r_callVi [] [.int x2] q6 (ok_X12_debts hq6) q_1517 q_1519 q_91 q_1520 q_153 hd_X12_debts (ce_51 D dy _) kc12.1 rfl ⟨Nat.le_of_ble_eq_true rfl, Nat.le_of_ble_eq_true rfl⟩ rfl rfl (Nat.le_of_ble_eq_true rfl) dX12_sweep_6 ?_
    refine r_icmp_ge (t := 62) dX12_sweep_9 (by decide) (fun c => ?_) (fun c => ?_)
    · rw [if_pos c] at h
      refine r_aload_n 0 dX12_sweep_62 rfl rfl ?_
      refine gf_51_3 q_1314 dX12_sweep_63 ?_
      refine r_iconst (v := 1) dX12_sweep_66 rfl ?_
      refine r_iload_n 1 dX12_sweep_67 rfl rfl ?_
      obtain ⟨c1, h⟩ := g_ite h
      refine as_53 (k_b_in c1) dX12_sweep_68 ?_
      generalize sA q6.2 53 (1 : Int32).toNatClampNeg x1 = S2 at h ⊢
      replace h := g_let h
      exact r_vret rfl dX12_sweep_69 ⟨rfl, rfl, Option.some.inj h⟩
    · rw [if_neg c] at h
      refine r_aload_n 0 dX12_sweep_12 rfl rfl ?_
      refine r_iload_n 2 dX12_sweep_13 rfl rfl ?_
      refine r_iconst (v := 3) dX12_sweep_14 rfl ?_
      obtain ⟨q15, hq15, h⟩ := g_bind h
      refine r_callVi [.int x2, .int (3 : Int32)] [] q15 (ok_X12_ofDebt hq15) q_1533 q_1535 q_94 q_1536 q_153 hd_X12_ofDebt (ce_51 D dy _) kc12.1 rfl ⟨Nat.le_of_ble_eq_true rfl, Nat.le_of_ble_eq_true rfl⟩ rfl rfl (Nat.le_of_ble_eq_true rfl) dX12_sweep_15 ?_
      refine r_if_le (t := 56) dX12_sweep_18 (by decide) (fun c => ?_) (fun c => ?_)
      · rw [if_pos c] at h
        exact w_X12_sweep_56 ih _ _ _ _ h
      · rw [if_neg c] at h
        refine r_iconst (v := 0) dX12_sweep_21 rfl ?_
        refine r_istore_n dX12_sweep_22 rfl (by decide) rfl ?_
        refine r_sub [1, 2, 3, 0] rfl ?_
        exact w_X12_sweep_23 ih _ _ _ _ _ _ h
set_option maxRecDepth 100000 in
set_option maxHeartbeats 4000000 in
theorem w_X12_sweep_0 {D : k_D} {dy : Nat → Nat} (S : St) (out : St) (h : f_X12_sweep S = some out) : Rn yX12_sweep cX12_sweep 4 none (k_rm 1) 0 0 D dy S (k_Pv dy out) 0 [(0, .ref (D.2.2 51))] [] := by
    unfold f_X12_sweep at h
    refine r_iconst (v := 0) dX12_sweep_0 rfl ?_
    refine r_istore_n dX12_sweep_1 rfl (by decide) rfl ?_
    refine r_iconst (v := 0) dX12_sweep_2 rfl ?_
    refine r_istore_n dX12_sweep_3 rfl (by decide) rfl ?_
    refine r_sub [2, 1, 0] rfl ?_
    exact w_X12_sweep_4 _ _ _ _ _ h
theorem ok_X12_sweep {D : k_D} {dy : Nat → Nat} {S : St} {out : St} (h : f_X12_sweep S = some out) : Sp yX12_sweep cX12_sweep 4 none (k_rm 1) D dy S [.ref (D.2.2 51)] (k_Pv dy out) := Sp.of (by decide +kernel) (Nat.le_of_ble_eq_true rfl) (w_X12_sweep_0 S out h)
noncomputable def f_X12_reckon_86 (s0 : Int64) (S : St) : Option (Int64 × St) := some (s0, S)
noncomputable def f_X12_reckon_68 (x2 : Int64) (x4 : Int64) (s1 : Int32) (S : St) : Option (Int64 × St) := if s1 = 0 ∨ s1 = 1 then k_let (sI S 48 s1) fun S2 => if (gI S2 48) = 0 then if ¬ x4 = 0 then f_X12_reckon_86 (x2 / x4) S2 else none else f_X12_reckon_86 (0 : Int64) S2 else none
noncomputable def f_X12_reckon_99 (s0 : Int64) (S : St) : Option (Int64 × St) := some (s0, S)
noncomputable def f_X12_reckon_112 (s0 : Int64) (S : St) : Option (Int64 × St) := some (s0, S)
noncomputable def f_X12_reckon_125 (s0 : Int64) (S : St) : Option (Int64 × St) := some (s0, S)
noncomputable def f_X12_reckon (x1 : Int32) (x2 : Int64) (x4 : Int64) (S : St) : Option (Int64 × St) := if x1 = (20 : Int32) then some (x2 + x4, S) else if x1 = (21 : Int32) then some (x2 - x4, S) else if x1 = (22 : Int32) then some (x2 * x4, S) else if x1 = (23 : Int32) then if x4 = (0 : Int64) then f_X12_reckon_68 x2 x4 (1 : Int32) S else f_X12_reckon_68 x2 x4 (0 : Int32) S else if x1 = (24 : Int32) then if x4 ≤ x2 then f_X12_reckon_99 (0 : Int64) S else f_X12_reckon_99 (1 : Int64) S else if x1 = (25 : Int32) then if x2 ≤ x4 then f_X12_reckon_112 (0 : Int64) S else f_X12_reckon_112 (1 : Int64) S else if x2 = x4 then f_X12_reckon_125 (1 : Int64) S else f_X12_reckon_125 (0 : Int64) S
set_option maxRecDepth 100000 in
set_option maxHeartbeats 4000000 in
theorem w_X12_reckon_86 {D : k_D} {dy : Nat → Nat} (s0 : Int64) (S : St) (out : Int64 × St) (h : f_X12_reckon_86 s0 S = some out) : Rn yX12_reckon cX12_reckon 6 (some .long) (k_rm 0) 0 0 D dy S (k_Pl dy out) 86 [] [.long s0] := by
    unfold f_X12_reckon_86 at h
    cases h
    exact r_lret rfl dX12_reckon_86 ⟨rfl, rfl, rfl⟩
set_option maxRecDepth 100000 in
set_option maxHeartbeats 4000000 in
theorem w_X12_reckon_68 {D : k_D} {dy : Nat → Nat} (x2 : Int64) (x4 : Int64) (s1 : Int32) (S : St) (out : Int64 × St) (h : f_X12_reckon_68 x2 x4 s1 S = some out) : Rn yX12_reckon cX12_reckon 6 (some .long) (k_rm 0) 0 0 D dy S (k_Pl dy out) 68 [(0, .ref (D.2.2 51)), (2, .long x2), (4, .long x4)] [.int s1, .ref (D.2.2 51)] := by
    unfold f_X12_reckon_68 at h
    obtain ⟨c1, h⟩ := g_ite h
    refine pf_51_30 c1 q_1341 dX12_reckon_68 ?_
    generalize sI S 48 s1 = S2 at h ⊢
    replace h := g_let h
    refine r_aload_n 0 dX12_reckon_71 rfl rfl ?_
    refine gf_51_30 q_1341 dX12_reckon_72 ?_
    refine r_if_eq (t := 82) dX12_reckon_75 (by decide) (fun c => ?_) (fun c => ?_)
    · rw [if_pos c] at h
      refine r_lload_n 1 dX12_reckon_82 rfl rfl ?_
      refine r_lload 2 dX12_reckon_83 rfl ?_
      obtain ⟨c3, h⟩ := g_ite h
      refine r_ldiv dX12_reckon_85 c3 ?_
      refine r_sub [] rfl ?_
      exact w_X12_reckon_86 _ _ _ h
    · rw [if_neg c] at h
      refine r_lconst (v := 0) dX12_reckon_78 rfl ?_
      refine r_goto (t := 86) dX12_reckon_79 (by decide) ?_
      refine r_sub [] rfl ?_
      exact w_X12_reckon_86 _ _ _ h
set_option maxRecDepth 100000 in
set_option maxHeartbeats 4000000 in
theorem w_X12_reckon_99 {D : k_D} {dy : Nat → Nat} (s0 : Int64) (S : St) (out : Int64 × St) (h : f_X12_reckon_99 s0 S = some out) : Rn yX12_reckon cX12_reckon 6 (some .long) (k_rm 0) 0 0 D dy S (k_Pl dy out) 99 [] [.long s0] := by
    unfold f_X12_reckon_99 at h
    cases h
    exact r_lret rfl dX12_reckon_99 ⟨rfl, rfl, rfl⟩
set_option maxRecDepth 100000 in
set_option maxHeartbeats 4000000 in
theorem w_X12_reckon_112 {D : k_D} {dy : Nat → Nat} (s0 : Int64) (S : St) (out : Int64 × St) (h : f_X12_reckon_112 s0 S = some out) : Rn yX12_reckon cX12_reckon 6 (some .long) (k_rm 0) 0 0 D dy S (k_Pl dy out) 112 [] [.long s0] := by
    unfold f_X12_reckon_112 at h
    cases h
    exact r_lret rfl dX12_reckon_112 ⟨rfl, rfl, rfl⟩
set_option maxRecDepth 100000 in
set_option maxHeartbeats 4000000 in
theorem w_X12_reckon_125 {D : k_D} {dy : Nat → Nat} (s0 : Int64) (S : St) (out : Int64 × St) (h : f_X12_reckon_125 s0 S = some out) : Rn yX12_reckon cX12_reckon 6 (some .long) (k_rm 0) 0 0 D dy S (k_Pl dy out) 125 [] [.long s0] := by
    unfold f_X12_reckon_125 at h
    cases h
    exact r_lret rfl dX12_reckon_125 ⟨rfl, rfl, rfl⟩
set_option maxRecDepth 100000 in
set_option maxHeartbeats 4000000 in
theorem w_X12_reckon_0 {D : k_D} {dy : Nat → Nat} (x1 : Int32) (x2 : Int64) (x4 : Int64) (S : St) (out : Int64 × St) (h : f_X12_reckon x1 x2 x4 S = some out) : Rn yX12_reckon cX12_reckon 6 (some .long) (k_rm 0) 0 0 D dy S (k_Pl dy out) 0 [(0, .ref (D.2.2 51)), (1, .int x1), (2, .long x2), (4, .long x4)] [] := by
    unfold f_X12_reckon at h
    refine r_iload_n 1 dX12_reckon_0 rfl rfl ?_
    by_cases c20 : x1 = (20 : Int32)
    · rw [if_pos c20] at h
      refine r_tableIn (t := 40) (o := 39) dX12_reckon_1 (by rw [c20]; decide) (by rw [c20]; decide) (by rw [c20]; rfl) (by decide) ?_
      refine r_lload_n 2 dX12_reckon_40 rfl rfl ?_
      refine r_lload 3 dX12_reckon_41 rfl ?_
      refine r_ladd dX12_reckon_43 ?_
      cases h
      exact r_lret rfl dX12_reckon_44 ⟨rfl, rfl, rfl⟩
    rw [if_neg c20] at h
    by_cases c21 : x1 = (21 : Int32)
    · rw [if_pos c21] at h
      refine r_tableIn (t := 45) (o := 44) dX12_reckon_1 (by rw [c21]; decide) (by rw [c21]; decide) (by rw [c21]; rfl) (by decide) ?_
      refine r_lload_n 2 dX12_reckon_45 rfl rfl ?_
      refine r_lload 3 dX12_reckon_46 rfl ?_
      refine r_lsub dX12_reckon_48 ?_
      cases h
      exact r_lret rfl dX12_reckon_49 ⟨rfl, rfl, rfl⟩
    rw [if_neg c21] at h
    by_cases c22 : x1 = (22 : Int32)
    · rw [if_pos c22] at h
      refine r_tableIn (t := 50) (o := 49) dX12_reckon_1 (by rw [c22]; decide) (by rw [c22]; decide) (by rw [c22]; rfl) (by decide) ?_
      refine r_lload_n 2 dX12_reckon_50 rfl rfl ?_
      refine r_lload 3 dX12_reckon_51 rfl ?_
      refine r_lmul dX12_reckon_53 ?_
      cases h
      exact r_lret rfl dX12_reckon_54 ⟨rfl, rfl, rfl⟩
    rw [if_neg c22] at h
    by_cases c23 : x1 = (23 : Int32)
    · rw [if_pos c23] at h
      refine r_tableIn (t := 55) (o := 54) dX12_reckon_1 (by rw [c23]; decide) (by rw [c23]; decide) (by rw [c23]; rfl) (by decide) ?_
      refine r_aload_n 0 dX12_reckon_55 rfl rfl ?_
      refine r_lload 3 dX12_reckon_56 rfl ?_
      refine r_lconst (v := 0) dX12_reckon_58 rfl ?_
      refine r_lcmp dX12_reckon_59 ?_
      refine r_if_ne (t := 67) dX12_reckon_60 (by decide) (fun c => ?_) (fun c => ?_)
      · rw [if_neg (fun z => c (lc_eq.mpr z))] at h
        refine r_iconst (v := 0) dX12_reckon_67 rfl ?_
        refine r_sub [0, 2, 3] rfl ?_
        exact w_X12_reckon_68 _ _ _ _ _ h
      · rw [if_pos (lc_eq.mp c)] at h
        refine r_iconst (v := 1) dX12_reckon_63 rfl ?_
        refine r_goto (t := 68) dX12_reckon_64 (by decide) ?_
        refine r_sub [0, 2, 3] rfl ?_
        exact w_X12_reckon_68 _ _ _ _ _ h
    rw [if_neg c23] at h
    by_cases c24 : x1 = (24 : Int32)
    · rw [if_pos c24] at h
      refine r_tableIn (t := 87) (o := 86) dX12_reckon_1 (by rw [c24]; decide) (by rw [c24]; decide) (by rw [c24]; rfl) (by decide) ?_
      refine r_lload_n 2 dX12_reckon_87 rfl rfl ?_
      refine r_lload 3 dX12_reckon_88 rfl ?_
      refine r_lcmp dX12_reckon_90 ?_
      refine r_if_ge (t := 98) dX12_reckon_91 (by decide) (fun c => ?_) (fun c => ?_)
      · rw [if_pos (lc_ge.mp c)] at h
        refine r_lconst (v := 0) dX12_reckon_98 rfl ?_
        refine r_sub [] rfl ?_
        exact w_X12_reckon_99 _ _ _ h
      · rw [if_neg (fun z => c (lc_ge.mpr z))] at h
        refine r_lconst (v := 1) dX12_reckon_94 rfl ?_
        refine r_goto (t := 99) dX12_reckon_95 (by decide) ?_
        refine r_sub [] rfl ?_
        exact w_X12_reckon_99 _ _ _ h
    rw [if_neg c24] at h
    by_cases c25 : x1 = (25 : Int32)
    · rw [if_pos c25] at h
      refine r_tableIn (t := 100) (o := 99) dX12_reckon_1 (by rw [c25]; decide) (by rw [c25]; decide) (by rw [c25]; rfl) (by decide) ?_
      refine r_lload_n 2 dX12_reckon_100 rfl rfl ?_
      refine r_lload 3 dX12_reckon_101 rfl ?_
      refine r_lcmp dX12_reckon_103 ?_
      refine r_if_le (t := 111) dX12_reckon_104 (by decide) (fun c => ?_) (fun c => ?_)
      · rw [if_pos (lc_le.mp c)] at h
        refine r_lconst (v := 0) dX12_reckon_111 rfl ?_
        refine r_sub [] rfl ?_
        exact w_X12_reckon_112 _ _ _ h
      · rw [if_neg (fun z => c (lc_le.mpr z))] at h
        refine r_lconst (v := 1) dX12_reckon_107 rfl ?_
        refine r_goto (t := 112) dX12_reckon_108 (by decide) ?_
        refine r_sub [] rfl ?_
        exact w_X12_reckon_112 _ _ _ h
    rw [if_neg c25] at h
    refine r_tableOut (t := 113) dX12_reckon_1 (by have e20 := g_ne c20 (k := 20) rfl; have e21 := g_ne c21 (k := 21) rfl; have e22 := g_ne c22 (k := 22) rfl; have e23 := g_ne c23 (k := 23) rfl; have e24 := g_ne c24 (k := 24) rfl; have e25 := g_ne c25 (k := 25) rfl; omega) (by decide) ?_
    refine r_lload_n 2 dX12_reckon_113 rfl rfl ?_
    refine r_lload 3 dX12_reckon_114 rfl ?_
    refine r_lcmp dX12_reckon_116 ?_
    refine r_if_ne (t := 124) dX12_reckon_117 (by decide) (fun c => ?_) (fun c => ?_)
    · rw [if_neg (fun z => c (lc_eq.mpr z))] at h
      refine r_lconst (v := 0) dX12_reckon_124 rfl ?_
      refine r_sub [] rfl ?_
      exact w_X12_reckon_125 _ _ _ h
    · rw [if_pos (lc_eq.mp c)] at h
      refine r_lconst (v := 1) dX12_reckon_120 rfl ?_
      refine r_goto (t := 125) dX12_reckon_121 (by decide) ?_
      refine r_sub [] rfl ?_
      exact w_X12_reckon_125 _ _ _ h
theorem ok_X12_reckon {D : k_D} {dy : Nat → Nat} {x1 : Int32} {x2 : Int64} {x4 : Int64} {S : St} {out : Int64 × St} (h : f_X12_reckon x1 x2 x4 S = some out) : Sp yX12_reckon cX12_reckon 6 (some .long) (k_rm 0) D dy S [.ref (D.2.2 51), .int x1, .long x2, .long x4] (k_Pl dy out) := Sp.of (by decide +kernel) (Nat.le_of_ble_eq_true rfl) (w_X12_reckon_0 _ _ _ S out h)
noncomputable def f_X12_reckonAll_260 (s1 : Int64) (S : St) : Option (St) := k_let (sJ S 1 s1) fun S1 => some S1
noncomputable def f_X12_reckonAll_245 (x3 : Int32) (S : St) : Option (St) := if x3 ≤ 0 then f_X12_reckonAll_260 (0 : Int64) S else if k_b (0 : Int32) 400 = true then f_X12_reckonAll_260 (gL S 65 (0 : Int32).toNatClampNeg) S else none
noncomputable def f_X12_reckonAll_242 (k10 : Int32 → Int32 → Int32 → St → Option (St)) (x2 : Int32) (x3 : Int32) (x4 : Int32) (S : St) : Option (St) := k10 x2 x3 x4 S
noncomputable def f_X12_reckonAll_228 (k10 : Int32 → Int32 → Int32 → St → Option (St)) (x2 : Int32) (x3 : Int32) (x4 : Int32) (x6 : Int32) (s0 : Int64) (s1 : Int64) (S : St) : Option (St) := if s0 = s1 then f_X12_reckonAll_242 k10 x2 x3 x6 S else f_X12_reckonAll_242 k10 x2 (x3 + (-1 : Int32)) x4 S
noncomputable def f_X12_reckonAll_174 (k10 : Int32 → Int32 → Int32 → St → Option (St)) (x2 : Int32) (x3 : Int32) (x4 : Int32) (s1 : Int32) (S : St) : Option (St) := if s1 = 0 ∨ s1 = 1 then k_let (sI S 48 s1) fun S2 => f_X12_reckonAll_242 k10 x2 x3 x4 S2 else none
noncomputable def f_X12_reckonAll_169 (k10 : Int32 → Int32 → Int32 → St → Option (St)) (x2 : Int32) (x3 : Int32) (x4 : Int32) (S : St) : Option (St) := f_X12_reckonAll_174 k10 x2 x3 x4 (1 : Int32) S
noncomputable def f_X12_reckonAll_96 (k10 : Int32 → Int32 → Int32 → St → Option (St)) (x2 : Int32) (x3 : Int32) (x4 : Int32) (s1 : Int32) (s2 : Int64) (S : St) : Option (St) := if k_b s1 400 = true then k_let (sL S 65 s1.toNatClampNeg s2) fun S2 => f_X12_reckonAll_242 k10 x2 (x3 + (1 : Int32)) x4 S2 else none
noncomputable def f_X12_reckonAll_10 : Nat → Int32 → Int32 → Int32 → St → Option (St)
  | 0, _, _, _, _ => none
  | n + 1, x2, x3, x4, S => if x2 ≤ x4 then f_X12_reckonAll_245 x3 S else if (gI S 48) = 0 then if k_b (((gI S 47) + (98 : Int32)) + ((2 : Int32) * x4)) 5560 = true then if k_b ((((gI S 47) + (98 : Int32)) + ((2 : Int32) * x4)) + (1 : Int32)) 5560 = true then if (20 : Int32) ≤ (gA S 53 (((gI S 47) + (98 : Int32)) + ((2 : Int32) * x4)).toNatClampNeg) then if (27 : Int32) ≤ (gA S 53 (((gI S 47) + (98 : Int32)) + ((2 : Int32) * x4)).toNatClampNeg) then if (gA S 53 (((gI S 47) + (98 : Int32)) + ((2 : Int32) * x4)).toNatClampNeg) = (27 : Int32) then if k_b (x3 - (1 : Int32)) 400 = true then if k_b (x3 - (1 : Int32)) 400 = true then k_let (sL S 65 (x3 - (1 : Int32)).toNatClampNeg ((1 : Int64) - (gL S 65 (x3 - (1 : Int32)).toNatClampNeg))) fun S6 => f_X12_reckonAll_242 (f_X12_reckonAll_10 n) x2 x3 (x4 + (1 : Int32)) S6 else none else none else if k_b (x3 - (1 : Int32)) 400 = true then if (gA S 53 (((gI S 47) + (98 : Int32)) + ((2 : Int32) * x4)).toNatClampNeg) = (28 : Int32) then f_X12_reckonAll_228 (f_X12_reckonAll_10 n) x2 x3 (x4 + (1 : Int32)) (gA S 53 ((((gI S 47) + (98 : Int32)) + ((2 : Int32) * x4)) + (1 : Int32)).toNatClampNeg) (gL S 65 (x3 - (1 : Int32)).toNatClampNeg) (0 : Int64) S else f_X12_reckonAll_228 (f_X12_reckonAll_10 n) x2 x3 (x4 + (1 : Int32)) (gA S 53 ((((gI S 47) + (98 : Int32)) + ((2 : Int32) * x4)) + (1 : Int32)).toNatClampNeg) (gL S 65 (x3 - (1 : Int32)).toNatClampNeg) (1 : Int64) S else none else if k_b ((x3 + (-1 : Int32)) - (1 : Int32)) 400 = true then if k_b (x3 + (-1 : Int32)) 400 = true then (f_X12_reckon (gA S 53 (((gI S 47) + (98 : Int32)) + ((2 : Int32) * x4)).toNatClampNeg) (gL S 65 ((x3 + (-1 : Int32)) - (1 : Int32)).toNatClampNeg) (gL S 65 (x3 + (-1 : Int32)).toNatClampNeg) S).bind fun q137 => if k_b ((x3 + (-1 : Int32)) - (1 : Int32)) 400 = true then k_let (sL q137.2 65 ((x3 + (-1 : Int32)) - (1 : Int32)).toNatClampNeg q137.1) fun S10 => if (gI S10 48) = 0 then if k_b ((x3 + (-1 : Int32)) - (1 : Int32)) 400 = true then (f_X12_in (gL S10 65 ((x3 + (-1 : Int32)) - (1 : Int32)).toNatClampNeg) (-1000000000 : Int64) (1000000000 : Int64) S10).bind fun q163 => if q163.1 = 0 then f_X12_reckonAll_169 (f_X12_reckonAll_10 n) x2 (x3 + (-1 : Int32)) (x4 + (1 : Int32)) q163.2 else f_X12_reckonAll_174 (f_X12_reckonAll_10 n) x2 (x3 + (-1 : Int32)) (x4 + (1 : Int32)) (0 : Int32) q163.2 else none else f_X12_reckonAll_169 (f_X12_reckonAll_10 n) x2 (x3 + (-1 : Int32)) (x4 + (1 : Int32)) S10 else none else none else none else if (gA S 53 (((gI S 47) + (98 : Int32)) + ((2 : Int32) * x4)).toNatClampNeg) = 0 then f_X12_reckonAll_96 (f_X12_reckonAll_10 n) x2 x3 (x4 + (1 : Int32)) x3 ((gA S 53 ((((gI S 47) + (98 : Int32)) + ((2 : Int32) * x4)) + (1 : Int32)).toNatClampNeg).toInt64) S else if k_b (gA S 53 (((gI S 47) + (98 : Int32)) + ((2 : Int32) * x4)).toNatClampNeg) 13 = true then f_X12_reckonAll_96 (f_X12_reckonAll_10 n) x2 x3 (x4 + (1 : Int32)) x3 (gL S 64 (gA S 53 (((gI S 47) + (98 : Int32)) + ((2 : Int32) * x4)).toNatClampNeg).toNatClampNeg) S else none else none else none else f_X12_reckonAll_245 x3 S
noncomputable def f_X12_reckonAll (x1 : Int32) (x2 : Int32) (S : St) : Option (St) := k_let (sI S 48 (0 : Int32)) fun S1 => f_X12_reckonAll_10 FU x2 (0 : Int32) x1 S1
set_option maxRecDepth 100000 in
set_option maxHeartbeats 4000000 in
theorem w_X12_reckonAll_260 {D : k_D} {dy : Nat → Nat} (s1 : Int64) (S : St) (out : St) (h : f_X12_reckonAll_260 s1 S = some out) : Rn yX12_reckonAll cX12_reckonAll 7 none (k_rm 1) 0 0 D dy S (k_Pv dy out) 260 [] [.long s1, .ref (D.2.2 51)] := by
    unfold f_X12_reckonAll_260 at h
    refine pf_51_31 q_1342 dX12_reckonAll_260 ?_
    generalize sJ S 1 s1 = S1 at h ⊢
    replace h := g_let h
    exact r_vret rfl dX12_reckonAll_263 ⟨rfl, rfl, Option.some.inj h⟩
set_option maxRecDepth 100000 in
set_option maxHeartbeats 4000000 in
theorem w_X12_reckonAll_245 {D : k_D} {dy : Nat → Nat} (x3 : Int32) (S : St) (out : St) (h : f_X12_reckonAll_245 x3 S = some out) : Rn yX12_reckonAll cX12_reckonAll 7 none (k_rm 1) 0 0 D dy S (k_Pv dy out) 245 [(0, .ref (D.2.2 51)), (3, .int x3)] [] := by
    unfold f_X12_reckonAll_245 at h
    refine r_aload_n 0 dX12_reckonAll_245 rfl rfl ?_
    refine r_iload_n 1 dX12_reckonAll_246 rfl rfl ?_
    refine r_if_le (t := 259) dX12_reckonAll_247 (by decide) (fun c => ?_) (fun c => ?_)
    · rw [if_pos c] at h
      refine r_lconst (v := 0) dX12_reckonAll_259 rfl ?_
      refine r_sub [] rfl ?_
      exact w_X12_reckonAll_260 _ _ _ h
    · rw [if_neg c] at h
      refine r_aload_n 0 dX12_reckonAll_250 rfl rfl ?_
      refine gf_51_29 q_1340 dX12_reckonAll_251 ?_
      refine r_iconst (v := 0) dX12_reckonAll_254 rfl ?_
      obtain ⟨c1, h⟩ := g_ite h
      refine al_65 (k_b_in c1) dX12_reckonAll_255 ?_
      refine r_goto (t := 260) dX12_reckonAll_256 (by decide) ?_
      refine r_sub [] rfl ?_
      exact w_X12_reckonAll_260 _ _ _ h
set_option maxRecDepth 100000 in
set_option maxHeartbeats 4000000 in
theorem w_X12_reckonAll_242 {D : k_D} {dy : Nat → Nat} {k10 : Int32 → Int32 → Int32 → St → Option (St)} (hk10 : ∀ (x2 : Int32) (x3 : Int32) (x4 : Int32) (S : St) (out : St), k10 x2 x3 x4 S = some out → Rn yX12_reckonAll cX12_reckonAll 7 none (k_rm 1) 0 0 D dy S (k_Pv dy out) 10 [(0, .ref (D.2.2 51)), (2, .int x2), (3, .int x3), (4, .int x4)] []) (x2 : Int32) (x3 : Int32) (x4 : Int32) (S : St) (out : St) (h : f_X12_reckonAll_242 k10 x2 x3 x4 S = some out) : Rn yX12_reckonAll cX12_reckonAll 7 none (k_rm 1) 0 0 D dy S (k_Pv dy out) 242 [(0, .ref (D.2.2 51)), (2, .int x2), (3, .int x3), (4, .int x4)] [] := by
    unfold f_X12_reckonAll_242 at h
    refine r_goto (t := 10) dX12_reckonAll_242 (by decide) ?_
    exact hk10 _ _ _ _ _ h
set_option maxRecDepth 100000 in
set_option maxHeartbeats 4000000 in
theorem w_X12_reckonAll_228 {D : k_D} {dy : Nat → Nat} {k10 : Int32 → Int32 → Int32 → St → Option (St)} (hk10 : ∀ (x2 : Int32) (x3 : Int32) (x4 : Int32) (S : St) (out : St), k10 x2 x3 x4 S = some out → Rn yX12_reckonAll cX12_reckonAll 7 none (k_rm 1) 0 0 D dy S (k_Pv dy out) 10 [(0, .ref (D.2.2 51)), (2, .int x2), (3, .int x3), (4, .int x4)] []) (x2 : Int32) (x3 : Int32) (x4 : Int32) (x6 : Int32) (s0 : Int64) (s1 : Int64) (S : St) (out : St) (h : f_X12_reckonAll_228 k10 x2 x3 x4 x6 s0 s1 S = some out) : Rn yX12_reckonAll cX12_reckonAll 7 none (k_rm 1) 0 0 D dy S (k_Pv dy out) 228 [(0, .ref (D.2.2 51)), (2, .int x2), (3, .int x3), (4, .int x4), (6, .int x6)] [.long s1, .long s0] := by
    unfold f_X12_reckonAll_228 at h
    refine r_lcmp dX12_reckonAll_228 ?_
    refine r_if_ne (t := 239) dX12_reckonAll_229 (by decide) (fun c => ?_) (fun c => ?_)
    · rw [if_neg (fun z => c (lc_eq.mpr z))] at h
      refine r_iinc (q := 2) (v := x3 + (-1 : Int32)) dX12_reckonAll_239 rfl rfl (by decide) rfl ?_
      refine r_sub [1, 2, 0, 3] rfl ?_
      exact w_X12_reckonAll_242 hk10 _ _ _ _ _ h
    · rw [if_pos (lc_eq.mp c)] at h
      refine r_iload 4 dX12_reckonAll_232 rfl ?_
      refine r_istore dX12_reckonAll_234 (by decide) rfl ?_
      refine r_goto (t := 242) dX12_reckonAll_236 (by decide) ?_
      refine r_sub [1, 2, 3, 0] rfl ?_
      exact w_X12_reckonAll_242 hk10 _ _ _ _ _ h
set_option maxRecDepth 100000 in
set_option maxHeartbeats 4000000 in
theorem w_X12_reckonAll_174 {D : k_D} {dy : Nat → Nat} {k10 : Int32 → Int32 → Int32 → St → Option (St)} (hk10 : ∀ (x2 : Int32) (x3 : Int32) (x4 : Int32) (S : St) (out : St), k10 x2 x3 x4 S = some out → Rn yX12_reckonAll cX12_reckonAll 7 none (k_rm 1) 0 0 D dy S (k_Pv dy out) 10 [(0, .ref (D.2.2 51)), (2, .int x2), (3, .int x3), (4, .int x4)] []) (x2 : Int32) (x3 : Int32) (x4 : Int32) (s1 : Int32) (S : St) (out : St) (h : f_X12_reckonAll_174 k10 x2 x3 x4 s1 S = some out) : Rn yX12_reckonAll cX12_reckonAll 7 none (k_rm 1) 0 0 D dy S (k_Pv dy out) 174 [(0, .ref (D.2.2 51)), (2, .int x2), (3, .int x3), (4, .int x4)] [.int s1, .ref (D.2.2 51)] := by
    unfold f_X12_reckonAll_174 at h
    obtain ⟨c1, h⟩ := g_ite h
    refine pf_51_30 c1 q_1341 dX12_reckonAll_174 ?_
    generalize sI S 48 s1 = S2 at h ⊢
    replace h := g_let h
    refine r_goto (t := 242) dX12_reckonAll_177 (by decide) ?_
    exact w_X12_reckonAll_242 hk10 _ _ _ _ _ h
set_option maxRecDepth 100000 in
set_option maxHeartbeats 4000000 in
theorem w_X12_reckonAll_169 {D : k_D} {dy : Nat → Nat} {k10 : Int32 → Int32 → Int32 → St → Option (St)} (hk10 : ∀ (x2 : Int32) (x3 : Int32) (x4 : Int32) (S : St) (out : St), k10 x2 x3 x4 S = some out → Rn yX12_reckonAll cX12_reckonAll 7 none (k_rm 1) 0 0 D dy S (k_Pv dy out) 10 [(0, .ref (D.2.2 51)), (2, .int x2), (3, .int x3), (4, .int x4)] []) (x2 : Int32) (x3 : Int32) (x4 : Int32) (S : St) (out : St) (h : f_X12_reckonAll_169 k10 x2 x3 x4 S = some out) : Rn yX12_reckonAll cX12_reckonAll 7 none (k_rm 1) 0 0 D dy S (k_Pv dy out) 169 [(0, .ref (D.2.2 51)), (2, .int x2), (3, .int x3), (4, .int x4)] [.ref (D.2.2 51)] := by
    unfold f_X12_reckonAll_169 at h
    refine r_iconst (v := 1) dX12_reckonAll_169 rfl ?_
    refine r_goto (t := 174) dX12_reckonAll_170 (by decide) ?_
    exact w_X12_reckonAll_174 hk10 _ _ _ _ _ _ h
set_option maxRecDepth 100000 in
set_option maxHeartbeats 4000000 in
theorem w_X12_reckonAll_96 {D : k_D} {dy : Nat → Nat} {k10 : Int32 → Int32 → Int32 → St → Option (St)} (hk10 : ∀ (x2 : Int32) (x3 : Int32) (x4 : Int32) (S : St) (out : St), k10 x2 x3 x4 S = some out → Rn yX12_reckonAll cX12_reckonAll 7 none (k_rm 1) 0 0 D dy S (k_Pv dy out) 10 [(0, .ref (D.2.2 51)), (2, .int x2), (3, .int x3), (4, .int x4)] []) (x2 : Int32) (x3 : Int32) (x4 : Int32) (s1 : Int32) (s2 : Int64) (S : St) (out : St) (h : f_X12_reckonAll_96 k10 x2 x3 x4 s1 s2 S = some out) : Rn yX12_reckonAll cX12_reckonAll 7 none (k_rm 1) 0 0 D dy S (k_Pv dy out) 96 [(0, .ref (D.2.2 51)), (2, .int x2), (3, .int x3), (4, .int x4)] [.long s2, .int s1, .ref (D.2.2 65)] := by
    unfold f_X12_reckonAll_96 at h
    obtain ⟨c1, h⟩ := g_ite h
    refine as_65 (k_b_in c1) dX12_reckonAll_96 ?_
    generalize sL S 65 s1.toNatClampNeg s2 = S2 at h ⊢
    replace h := g_let h
    refine r_iinc (q := 2) (v := x3 + (1 : Int32)) dX12_reckonAll_97 rfl rfl (by decide) rfl ?_
    refine r_goto (t := 242) dX12_reckonAll_100 (by decide) ?_
    refine r_sub [1, 2, 0, 3] rfl ?_
    exact w_X12_reckonAll_242 hk10 _ _ _ _ _ h
set_option maxRecDepth 100000 in
set_option maxHeartbeats 4000000 in
theorem w_X12_reckonAll_10 {D : k_D} {dy : Nat → Nat} : ∀ (n : Nat) (x2 : Int32) (x3 : Int32) (x4 : Int32) (S : St) (out : St), f_X12_reckonAll_10 n x2 x3 x4 S = some out → Rn yX12_reckonAll cX12_reckonAll 7 none (k_rm 1) 0 0 D dy S (k_Pv dy out) 10 [(0, .ref (D.2.2 51)), (2, .int x2), (3, .int x3), (4, .int x4)] [] := by
  intro n
  induction n with
  | zero => intro x2 x3 x4 S out h; cases h
  | succ n ih =>
    intro x2 x3 x4 S out h
    rw [f_X12_reckonAll_10] at h
    refine r_iload 3 dX12_reckonAll_10 rfl ?_
    refine r_iload_n 1 dX12_reckonAll_12 rfl rfl ?_
    refine r_icmp_ge (t := 245) dX12_reckonAll_13 (by decide) (fun c => ?_) (fun c => ?_)
    · rw [if_pos c] at h
      refine r_sub [0, 2] rfl ?_
      exact w_X12_reckonAll_245 _ _ _ h
    · rw [if_neg c] at h
      refine r_aload_n 0 dX12_reckonAll_16 rfl rfl ?_
      refine gf_51_30 q_1341 dX12_reckonAll_17 ?_
      refine r_if_ne (t := 245) dX12_reckonAll_20 (by decide) (fun c => ?_) (fun c => ?_)
      · rw [if_neg c] at h
        refine r_sub [0, 2] rfl ?_
        exact w_X12_reckonAll_245 _ _ _ h
      · rw [if_pos c] at h
        refine r_aload_n 0 dX12_reckonAll_23 rfl rfl ?_
        refine gf_51_3 q_1314 dX12_reckonAll_24 ?_
        refine r_aload_n 0 dX12_reckonAll_27 rfl rfl ?_
        refine gf_51_27 q_1338 dX12_reckonAll_28 ?_
        refine r_bipush (v := 98) dX12_reckonAll_31 rfl ?_
        refine r_iadd dX12_reckonAll_33 ?_
        refine r_iconst (v := 2) dX12_reckonAll_34 rfl ?_
        refine r_iload 3 dX12_reckonAll_35 rfl ?_
        refine r_imul dX12_reckonAll_37 ?_
        refine r_iadd dX12_reckonAll_38 ?_
        obtain ⟨c1, h⟩ := g_ite h
        refine al_53 (k_b_in c1) dX12_reckonAll_39 ?_
        refine r_istore dX12_reckonAll_40 (by decide) rfl ?_
        refine r_aload_n 1 dX12_reckonAll_42 rfl rfl ?_
        refine gf_51_3 q_1314 dX12_reckonAll_43 ?_
        refine r_aload_n 1 dX12_reckonAll_46 rfl rfl ?_
        refine gf_51_27 q_1338 dX12_reckonAll_47 ?_
        refine r_bipush (v := 98) dX12_reckonAll_50 rfl ?_
        refine r_iadd dX12_reckonAll_52 ?_
        refine r_iconst (v := 2) dX12_reckonAll_53 rfl ?_
        refine r_iload 4 dX12_reckonAll_54 rfl ?_
        refine r_imul dX12_reckonAll_56 ?_
        refine r_iadd dX12_reckonAll_57 ?_
        refine r_iconst (v := 1) dX12_reckonAll_58 rfl ?_
        refine r_iadd dX12_reckonAll_59 ?_
        obtain ⟨c2, h⟩ := g_ite h
        refine al_53 (k_b_in c2) dX12_reckonAll_60 ?_
        refine r_istore dX12_reckonAll_61 (by decide) rfl ?_
        refine r_iinc (q := 5) (v := x4 + (1 : Int32)) dX12_reckonAll_63 rfl rfl (by decide) rfl ?_
        refine r_iload 2 dX12_reckonAll_66 rfl ?_
        refine r_bipush (v := 20) dX12_reckonAll_68 rfl ?_
        refine r_icmp_ge (t := 103) dX12_reckonAll_70 (by decide) (fun c => ?_) (fun c => ?_)
        · rw [if_pos c] at h
          refine r_iload 2 dX12_reckonAll_103 rfl ?_
          refine r_bipush (v := 27) dX12_reckonAll_105 rfl ?_
          refine r_icmp_ge (t := 180) dX12_reckonAll_107 (by decide) (fun c => ?_) (fun c => ?_)
          · rw [if_pos c] at h
            refine r_iload 2 dX12_reckonAll_180 rfl ?_
            refine r_bipush (v := 27) dX12_reckonAll_182 rfl ?_
            refine r_icmp_ne (t := 208) dX12_reckonAll_184 (by decide) (fun c => ?_) (fun c => ?_)
            · rw [if_neg c] at h
              refine r_aload_n 3 dX12_reckonAll_208 rfl rfl ?_
              refine gf_51_29 q_1340 dX12_reckonAll_209 ?_
              refine r_iload_n 5 dX12_reckonAll_212 rfl rfl ?_
              refine r_iconst (v := 1) dX12_reckonAll_213 rfl ?_
              refine r_isub dX12_reckonAll_214 ?_
              obtain ⟨c3, h⟩ := g_ite h
              refine al_65 (k_b_in c3) dX12_reckonAll_215 ?_
              refine r_iload 2 dX12_reckonAll_216 rfl ?_
              refine r_bipush (v := 28) dX12_reckonAll_218 rfl ?_
              refine r_icmp_ne (t := 227) dX12_reckonAll_220 (by decide) (fun c => ?_) (fun c => ?_)
              · rw [if_neg c] at h
                refine r_lconst (v := 1) dX12_reckonAll_227 rfl ?_
                refine r_sub [3, 4, 5, 0, 1] rfl ?_
                exact w_X12_reckonAll_228 ih _ _ _ _ _ _ _ _ h
              · rw [if_pos c] at h
                refine r_lconst (v := 0) dX12_reckonAll_223 rfl ?_
                refine r_goto (t := 228) dX12_reckonAll_224 (by decide) ?_
                refine r_sub [3, 4, 5, 0, 1] rfl ?_
                exact w_X12_reckonAll_228 ih _ _ _ _ _ _ _ _ h
            · rw [if_pos c] at h
              refine r_aload_n 3 dX12_reckonAll_187 rfl rfl ?_
              refine gf_51_29 q_1340 dX12_reckonAll_188 ?_
              refine r_iload_n 5 dX12_reckonAll_191 rfl rfl ?_
              refine r_iconst (v := 1) dX12_reckonAll_192 rfl ?_
              refine r_isub dX12_reckonAll_193 ?_
              refine r_lconst (v := 1) dX12_reckonAll_194 rfl ?_
              refine r_aload_n 3 dX12_reckonAll_195 rfl rfl ?_
              refine gf_51_29 q_1340 dX12_reckonAll_196 ?_
              refine r_iload_n 5 dX12_reckonAll_199 rfl rfl ?_
              refine r_iconst (v := 1) dX12_reckonAll_200 rfl ?_
              refine r_isub dX12_reckonAll_201 ?_
              obtain ⟨c4, h⟩ := g_ite h
              refine al_65 (k_b_in c4) dX12_reckonAll_202 ?_
              refine r_lsub dX12_reckonAll_203 ?_
              obtain ⟨c5, h⟩ := g_ite h
              refine as_65 (k_b_in c5) dX12_reckonAll_204 ?_
              generalize sL S 65 (x3 - (1 : Int32)).toNatClampNeg ((1 : Int64) - (gL S 65 (x3 - (1 : Int32)).toNatClampNeg)) = S6 at h ⊢
              replace h := g_let h
              refine r_goto (t := 242) dX12_reckonAll_205 (by decide) ?_
              refine r_sub [3, 4, 5, 0] rfl ?_
              exact w_X12_reckonAll_242 ih _ _ _ _ _ h
          · rw [if_neg c] at h
            refine r_iinc (q := 5) (v := x3 + (-1 : Int32)) dX12_reckonAll_110 rfl rfl (by decide) rfl ?_
            refine r_aload_n 4 dX12_reckonAll_113 rfl rfl ?_
            refine gf_51_29 q_1340 dX12_reckonAll_114 ?_
            refine r_iload_n 0 dX12_reckonAll_117 rfl rfl ?_
            refine r_iconst (v := 1) dX12_reckonAll_118 rfl ?_
            refine r_isub dX12_reckonAll_119 ?_
            refine r_aload_n 4 dX12_reckonAll_120 rfl rfl ?_
            refine r_iload 3 dX12_reckonAll_121 rfl ?_
            refine r_aload_n 4 dX12_reckonAll_123 rfl rfl ?_
            refine gf_51_29 q_1340 dX12_reckonAll_124 ?_
            refine r_iload_n 0 dX12_reckonAll_127 rfl rfl ?_
            refine r_iconst (v := 1) dX12_reckonAll_128 rfl ?_
            refine r_isub dX12_reckonAll_129 ?_
            obtain ⟨c7, h⟩ := g_ite h
            refine al_65 (k_b_in c7) dX12_reckonAll_130 ?_
            refine r_aload_n 4 dX12_reckonAll_131 rfl rfl ?_
            refine gf_51_29 q_1340 dX12_reckonAll_132 ?_
            refine r_iload_n 0 dX12_reckonAll_135 rfl rfl ?_
            obtain ⟨c8, h⟩ := g_ite h
            refine al_65 (k_b_in c8) dX12_reckonAll_136 ?_
            obtain ⟨q137, hq137, h⟩ := g_bind h
            refine r_callVl [.int (gA S 53 (((gI S 47) + (98 : Int32)) + ((2 : Int32) * x4)).toNatClampNeg), .long (gL S 65 ((x3 + (-1 : Int32)) - (1 : Int32)).toNatClampNeg), .long (gL S 65 (x3 + (-1 : Int32)).toNatClampNeg)] [.int ((x3 + (-1 : Int32)) - (1 : Int32)), .ref (D.2.2 65)] q137 (ok_X12_reckon hq137) q_1557 q_1559 q_100 q_1560 q_153 hd_X12_reckon (ce_51 D dy _) kc12.1 rfl ⟨Nat.le_of_ble_eq_true rfl, Nat.le_of_ble_eq_true rfl⟩ rfl rfl (Nat.le_of_ble_eq_true rfl) dX12_reckonAll_137 ?_
            obtain ⟨c9, h⟩ := g_ite h
            refine as_65 (k_b_in c9) dX12_reckonAll_140 ?_
            generalize sL q137.2 65 ((x3 + (-1 : Int32)) - (1 : Int32)).toNatClampNeg q137.1 = S10 at h ⊢
            replace h := g_let h
            refine r_aload_n 4 dX12_reckonAll_141 rfl rfl ?_
            refine r_aload_n 4 dX12_reckonAll_142 rfl rfl ?_
            refine gf_51_30 q_1341 dX12_reckonAll_143 ?_
            refine r_if_ne (t := 169) dX12_reckonAll_146 (by decide) (fun c => ?_) (fun c => ?_)
            · rw [if_neg c] at h
              refine r_sub [4, 5, 0, 1] rfl ?_
              exact w_X12_reckonAll_169 ih _ _ _ _ _ h
            · rw [if_pos c] at h
              refine r_aload_n 4 dX12_reckonAll_149 rfl rfl ?_
              refine gf_51_29 q_1340 dX12_reckonAll_150 ?_
              refine r_iload_n 0 dX12_reckonAll_153 rfl rfl ?_
              refine r_iconst (v := 1) dX12_reckonAll_154 rfl ?_
              refine r_isub dX12_reckonAll_155 ?_
              obtain ⟨c11, h⟩ := g_ite h
              refine al_65 (k_b_in c11) dX12_reckonAll_156 ?_
              refine r_ldc2 (v := -1000000000) q_1561 dX12_reckonAll_157 ?_
              refine r_ldc2 (v := 1000000000) q_1562 dX12_reckonAll_160 ?_
              obtain ⟨q163, hq163, h⟩ := g_bind h
              refine r_callSi [.long (gL S10 65 ((x3 + (-1 : Int32)) - (1 : Int32)).toNatClampNeg), .long (-1000000000 : Int64), .long (1000000000 : Int64)] [.ref (D.2.2 51)] q163 (ok_X12_in hq163) q_1481 q_1482 q_1483 q_153 hd_X12_in ⟨Nat.le_of_ble_eq_true rfl, Nat.le_of_ble_eq_true rfl⟩ rfl rfl (Nat.le_of_ble_eq_true rfl) dX12_reckonAll_163 ?_
              refine r_if_ne (t := 173) dX12_reckonAll_166 (by decide) (fun c => ?_) (fun c => ?_)
              · rw [if_neg c] at h
                refine r_iconst (v := 0) dX12_reckonAll_173 rfl ?_
                refine r_sub [4, 5, 0, 1] rfl ?_
                exact w_X12_reckonAll_174 ih _ _ _ _ _ _ h
              · rw [if_pos c] at h
                refine r_sub [4, 5, 0, 1] rfl ?_
                exact w_X12_reckonAll_169 ih _ _ _ _ _ h
        · rw [if_neg c] at h
          refine r_aload_n 3 dX12_reckonAll_73 rfl rfl ?_
          refine gf_51_29 q_1340 dX12_reckonAll_74 ?_
          refine r_iload_n 5 dX12_reckonAll_77 rfl rfl ?_
          refine r_iload 2 dX12_reckonAll_78 rfl ?_
          refine r_if_ne (t := 89) dX12_reckonAll_80 (by decide) (fun c => ?_) (fun c => ?_)
          · rw [if_neg c] at h
            refine r_aload_n 3 dX12_reckonAll_89 rfl rfl ?_
            refine gf_51_28 q_1339 dX12_reckonAll_90 ?_
            refine r_iload 2 dX12_reckonAll_93 rfl ?_
            obtain ⟨c12, h⟩ := g_ite h
            refine al_64 (k_b_in c12) dX12_reckonAll_95 ?_
            refine r_sub [3, 4, 5, 0] rfl ?_
            exact w_X12_reckonAll_96 ih _ _ _ _ _ _ _ h
          · rw [if_pos c] at h
            refine r_iload 1 dX12_reckonAll_83 rfl ?_
            refine r_i2l dX12_reckonAll_85 ?_
            refine r_goto (t := 96) dX12_reckonAll_86 (by decide) ?_
            refine r_sub [3, 4, 5, 0] rfl ?_
            exact w_X12_reckonAll_96 ih _ _ _ _ _ _ _ h
set_option maxRecDepth 100000 in
set_option maxHeartbeats 4000000 in
theorem w_X12_reckonAll_0 {D : k_D} {dy : Nat → Nat} (x1 : Int32) (x2 : Int32) (S : St) (out : St) (h : f_X12_reckonAll x1 x2 S = some out) : Rn yX12_reckonAll cX12_reckonAll 7 none (k_rm 1) 0 0 D dy S (k_Pv dy out) 0 [(0, .ref (D.2.2 51)), (1, .int x1), (2, .int x2)] [] := by
    unfold f_X12_reckonAll at h
    refine r_aload_n 0 dX12_reckonAll_0 rfl rfl ?_
    refine r_iconst (v := 0) dX12_reckonAll_1 rfl ?_
    refine pf_51_30 (Or.inl rfl) q_1341 dX12_reckonAll_2 ?_
    generalize sI S 48 (0 : Int32) = S1 at h ⊢
    replace h := g_let h
    refine r_iconst (v := 0) dX12_reckonAll_5 rfl ?_
    refine r_istore_n dX12_reckonAll_6 rfl (by decide) rfl ?_
    refine r_iload_n 2 dX12_reckonAll_7 rfl rfl ?_
    refine r_istore dX12_reckonAll_8 (by decide) rfl ?_
    refine r_sub [2, 4, 1, 0] rfl ?_
    exact w_X12_reckonAll_10 _ _ _ _ _ _ h
theorem ok_X12_reckonAll {D : k_D} {dy : Nat → Nat} {x1 : Int32} {x2 : Int32} {S : St} {out : St} (h : f_X12_reckonAll x1 x2 S = some out) : Sp yX12_reckonAll cX12_reckonAll 7 none (k_rm 1) D dy S [.ref (D.2.2 51), .int x1, .int x2] (k_Pv dy out) := Sp.of (by decide +kernel) (Nat.le_of_ble_eq_true rfl) (w_X12_reckonAll_0 _ _ S out h)
noncomputable def f_X12_isSo_108 (s0 : Int32) (S : St) : Option (Int32 × St) := if s0 = 0 ∨ s0 = 1 then some (s0, S) else none
noncomputable def f_X12_isSo_59 (x1 : Int32) (S : St) : Option (Int32 × St) := if k_b x1 5560 = true then if (gA S 53 x1.toNatClampNeg) = 0 then if k_b (x1 + (3 : Int32)) 5560 = true then if k_b (x1 + (4 : Int32)) 5560 = true then (f_X12_reckonAll (gA S 53 (x1 + (3 : Int32)).toNatClampNeg) (gA S 53 (x1 + (4 : Int32)).toNatClampNeg) S).bind fun q85 => k_let (sJ q85 2 (gJ q85 1)) fun S4 => if (gI S4 48) = 0 then f_X12_isSo_108 (1 : Int32) S4 else f_X12_isSo_108 (0 : Int32) S4 else none else none else some ((1 : Int32), S) else none
noncomputable def f_X12_isSo_57 (S : St) : Option (Int32 × St) := some ((0 : Int32), S)
noncomputable def f_X12_isSo (x1 : Int32) (S : St) : Option (Int32 × St) := if k_b (x1 + (5 : Int32)) 5560 = true then if k_b (x1 + (6 : Int32)) 5560 = true then if (gA S 53 (x1 + (6 : Int32)).toNatClampNeg) ≤ (gA S 53 (x1 + (5 : Int32)).toNatClampNeg) then f_X12_isSo_59 x1 S else if k_b (x1 + (5 : Int32)) 5560 = true then if k_b (x1 + (6 : Int32)) 5560 = true then (f_X12_reckonAll (gA S 53 (x1 + (5 : Int32)).toNatClampNeg) (gA S 53 (x1 + (6 : Int32)).toNatClampNeg) S).bind fun q38 => if (gI q38 48) = 0 then if (gJ q38 1) = (0 : Int64) then f_X12_isSo_57 q38 else f_X12_isSo_59 x1 q38 else f_X12_isSo_57 q38 else none else none else none else none
set_option maxRecDepth 100000 in
set_option maxHeartbeats 4000000 in
theorem w_X12_isSo_108 {D : k_D} {dy : Nat → Nat} (s0 : Int32) (S : St) (out : Int32 × St) (h : f_X12_isSo_108 s0 S = some out) : Rn yX12_isSo cX12_isSo 2 (some .boolean) (k_rm 2) 0 0 D dy S (k_Pi dy out) 108 [] [.int s0] := by
    unfold f_X12_isSo_108 at h
    obtain ⟨c, h⟩ := g_ite h
    cases h
    exact r_zret rfl (k_zn c) dX12_isSo_108 ⟨rfl, rfl, rfl⟩
set_option maxRecDepth 100000 in
set_option maxHeartbeats 4000000 in
theorem w_X12_isSo_59 {D : k_D} {dy : Nat → Nat} (x1 : Int32) (S : St) (out : Int32 × St) (h : f_X12_isSo_59 x1 S = some out) : Rn yX12_isSo cX12_isSo 2 (some .boolean) (k_rm 2) 0 0 D dy S (k_Pi dy out) 59 [(0, .ref (D.2.2 51)), (1, .int x1)] [] := by
    unfold f_X12_isSo_59 at h
    refine r_aload_n 0 dX12_isSo_59 rfl rfl ?_
    refine gf_51_3 q_1314 dX12_isSo_60 ?_
    refine r_iload_n 1 dX12_isSo_63 rfl rfl ?_
    obtain ⟨c1, h⟩ := g_ite h
    refine al_53 (k_b_in c1) dX12_isSo_64 ?_
    refine r_if_ne (t := 109) dX12_isSo_65 (by decide) (fun c => ?_) (fun c => ?_)
    · rw [if_neg c] at h
      refine r_iconst (v := 1) dX12_isSo_109 rfl ?_
      cases h
      exact r_zret rfl rfl dX12_isSo_110 ⟨rfl, rfl, rfl⟩
    · rw [if_pos c] at h
      refine r_aload_n 0 dX12_isSo_68 rfl rfl ?_
      refine r_aload_n 0 dX12_isSo_69 rfl rfl ?_
      refine gf_51_3 q_1314 dX12_isSo_70 ?_
      refine r_iload_n 1 dX12_isSo_73 rfl rfl ?_
      refine r_iconst (v := 3) dX12_isSo_74 rfl ?_
      refine r_iadd dX12_isSo_75 ?_
      obtain ⟨c2, h⟩ := g_ite h
      refine al_53 (k_b_in c2) dX12_isSo_76 ?_
      refine r_aload_n 0 dX12_isSo_77 rfl rfl ?_
      refine gf_51_3 q_1314 dX12_isSo_78 ?_
      refine r_iload_n 1 dX12_isSo_81 rfl rfl ?_
      refine r_iconst (v := 4) dX12_isSo_82 rfl ?_
      refine r_iadd dX12_isSo_83 ?_
      obtain ⟨c3, h⟩ := g_ite h
      refine al_53 (k_b_in c3) dX12_isSo_84 ?_
      obtain ⟨q85, hq85, h⟩ := g_bind h
      refine r_callVv [.int (gA S 53 (x1 + (3 : Int32)).toNatClampNeg), .int (gA S 53 (x1 + (4 : Int32)).toNatClampNeg)] [] q85 (ok_X12_reckonAll hq85) q_1553 q_1555 q_99 q_1556 q_153 hd_X12_reckonAll (ce_51 D dy _) kc12.1 rfl ⟨Nat.le_of_ble_eq_true rfl, Nat.le_of_ble_eq_true rfl⟩ rfl rfl (Nat.le_of_ble_eq_true rfl) dX12_isSo_85 ?_
      refine r_aload_n 0 dX12_isSo_88 rfl rfl ?_
      refine r_aload_n 0 dX12_isSo_89 rfl rfl ?_
      refine gf_51_31 q_1342 dX12_isSo_90 ?_
      refine pf_51_32 q_1343 dX12_isSo_93 ?_
      generalize sJ q85 2 (gJ q85 1) = S4 at h ⊢
      replace h := g_let h
      refine r_aload_n 0 dX12_isSo_96 rfl rfl ?_
      refine gf_51_30 q_1341 dX12_isSo_97 ?_
      refine r_if_ne (t := 107) dX12_isSo_100 (by decide) (fun c => ?_) (fun c => ?_)
      · rw [if_neg c] at h
        refine r_iconst (v := 0) dX12_isSo_107 rfl ?_
        refine r_sub [] rfl ?_
        exact w_X12_isSo_108 _ _ _ h
      · rw [if_pos c] at h
        refine r_iconst (v := 1) dX12_isSo_103 rfl ?_
        refine r_goto (t := 108) dX12_isSo_104 (by decide) ?_
        refine r_sub [] rfl ?_
        exact w_X12_isSo_108 _ _ _ h
set_option maxRecDepth 100000 in
set_option maxHeartbeats 4000000 in
theorem w_X12_isSo_57 {D : k_D} {dy : Nat → Nat} (S : St) (out : Int32 × St) (h : f_X12_isSo_57 S = some out) : Rn yX12_isSo cX12_isSo 2 (some .boolean) (k_rm 2) 0 0 D dy S (k_Pi dy out) 57 [] [] := by
    unfold f_X12_isSo_57 at h
    refine r_iconst (v := 0) dX12_isSo_57 rfl ?_
    cases h
    exact r_zret rfl rfl dX12_isSo_58 ⟨rfl, rfl, rfl⟩
set_option maxRecDepth 100000 in
set_option maxHeartbeats 4000000 in
theorem w_X12_isSo_0 {D : k_D} {dy : Nat → Nat} (x1 : Int32) (S : St) (out : Int32 × St) (h : f_X12_isSo x1 S = some out) : Rn yX12_isSo cX12_isSo 2 (some .boolean) (k_rm 2) 0 0 D dy S (k_Pi dy out) 0 [(0, .ref (D.2.2 51)), (1, .int x1)] [] := by
    unfold f_X12_isSo at h
    refine r_aload_n 0 dX12_isSo_0 rfl rfl ?_
    refine gf_51_3 q_1314 dX12_isSo_1 ?_
    refine r_iload_n 1 dX12_isSo_4 rfl rfl ?_
    refine r_iconst (v := 5) dX12_isSo_5 rfl ?_
    refine r_iadd dX12_isSo_6 ?_
    obtain ⟨c1, h⟩ := g_ite h
    refine al_53 (k_b_in c1) dX12_isSo_7 ?_
    refine r_aload_n 0 dX12_isSo_8 rfl rfl ?_
    refine gf_51_3 q_1314 dX12_isSo_9 ?_
    refine r_iload_n 1 dX12_isSo_12 rfl rfl ?_
    refine r_bipush (v := 6) dX12_isSo_13 rfl ?_
    refine r_iadd dX12_isSo_15 ?_
    obtain ⟨c2, h⟩ := g_ite h
    refine al_53 (k_b_in c2) dX12_isSo_16 ?_
    refine r_icmp_ge (t := 59) dX12_isSo_17 (by decide) (fun c => ?_) (fun c => ?_)
    · rw [if_pos c] at h
      exact w_X12_isSo_59 _ _ _ h
    · rw [if_neg c] at h
      refine r_aload_n 0 dX12_isSo_20 rfl rfl ?_
      refine r_aload_n 0 dX12_isSo_21 rfl rfl ?_
      refine gf_51_3 q_1314 dX12_isSo_22 ?_
      refine r_iload_n 1 dX12_isSo_25 rfl rfl ?_
      refine r_iconst (v := 5) dX12_isSo_26 rfl ?_
      refine r_iadd dX12_isSo_27 ?_
      obtain ⟨c3, h⟩ := g_ite h
      refine al_53 (k_b_in c3) dX12_isSo_28 ?_
      refine r_aload_n 0 dX12_isSo_29 rfl rfl ?_
      refine gf_51_3 q_1314 dX12_isSo_30 ?_
      refine r_iload_n 1 dX12_isSo_33 rfl rfl ?_
      refine r_bipush (v := 6) dX12_isSo_34 rfl ?_
      refine r_iadd dX12_isSo_36 ?_
      obtain ⟨c4, h⟩ := g_ite h
      refine al_53 (k_b_in c4) dX12_isSo_37 ?_
      obtain ⟨q38, hq38, h⟩ := g_bind h
      refine r_callVv [.int (gA S 53 (x1 + (5 : Int32)).toNatClampNeg), .int (gA S 53 (x1 + (6 : Int32)).toNatClampNeg)] [] q38 (ok_X12_reckonAll hq38) q_1553 q_1555 q_99 q_1556 q_153 hd_X12_reckonAll (ce_51 D dy _) kc12.1 rfl ⟨Nat.le_of_ble_eq_true rfl, Nat.le_of_ble_eq_true rfl⟩ rfl rfl (Nat.le_of_ble_eq_true rfl) dX12_isSo_38 ?_
      refine r_aload_n 0 dX12_isSo_41 rfl rfl ?_
      refine gf_51_30 q_1341 dX12_isSo_42 ?_
      refine r_if_ne (t := 57) dX12_isSo_45 (by decide) (fun c => ?_) (fun c => ?_)
      · rw [if_neg c] at h
        refine r_sub [] rfl ?_
        exact w_X12_isSo_57 _ _ h
      · rw [if_pos c] at h
        refine r_aload_n 0 dX12_isSo_48 rfl rfl ?_
        refine gf_51_31 q_1342 dX12_isSo_49 ?_
        refine r_lconst (v := 0) dX12_isSo_52 rfl ?_
        refine r_lcmp dX12_isSo_53 ?_
        refine r_if_ne (t := 59) dX12_isSo_54 (by decide) (fun c => ?_) (fun c => ?_)
        · rw [if_neg (fun z => c (lc_eq.mpr z))] at h
          exact w_X12_isSo_59 _ _ _ h
        · rw [if_pos (lc_eq.mp c)] at h
          refine r_sub [] rfl ?_
          exact w_X12_isSo_57 _ _ h
theorem ok_X12_isSo {D : k_D} {dy : Nat → Nat} {x1 : Int32} {S : St} {out : Int32 × St} (h : f_X12_isSo x1 S = some out) : Sp yX12_isSo cX12_isSo 2 (some .boolean) (k_rm 2) D dy S [.ref (D.2.2 51), .int x1] (k_Pi dy out) := Sp.of (by decide +kernel) (Nat.le_of_ble_eq_true rfl) (w_X12_isSo_0 _ S out h)
