noncomputable def f_J7_fill_53178_a21_5 : Nat → Int32 → Int32 → Int32 → St → Option (St)
  | 0, _, _, _, _ => none
  | n + 1, x1, x2, x3, S => if x3 ≤ x2 then some S else if k_b x2 8 = true then k_let (sA S 21 x2.toNatClampNeg x1) fun S2 => f_J7_fill_53178_a21_5 n x1 (x2 + (1 : Int32)) x3 S2 else none
noncomputable def f_J7_fill_53178_a21 (x1 : Int32) (S : St) : Option (St) := f_J7_fill_53178_a21_5 FU x1 (0 : Int32) (8 : Int32) S
set_option maxRecDepth 100000 in
set_option maxHeartbeats 4000000 in
theorem w_J7_fill_53178_a21_5 {D : k_D} {dy : Nat → Nat} : ∀ (n : Nat) (x1 : Int32) (x2 : Int32) (x3 : Int32) (S : St) (out : St), f_J7_fill_53178_a21_5 n x1 x2 x3 S = some out → Rn yJ7_fill_53178 cJ7_fill_53178 4 none (k_rm 0) 0 0 D dy S (k_Pv dy out) 5 [(0, .ref (D.2.2 21)), (1, .int x1), (2, .int x2), (3, .int x3)] [] := by
  intro n
  induction n with
  | zero => intro x1 x2 x3 S out h; cases h
  | succ n ih =>
    intro x1 x2 x3 S out h
    rw [f_J7_fill_53178_a21_5] at h
    refine r_iload_n 2 dJ7_fill_53178_5 rfl rfl ?_
    refine r_iload_n 3 dJ7_fill_53178_6 rfl rfl ?_
    refine r_icmp_ge (t := 20) dJ7_fill_53178_7 (by decide) (fun c => ?_) (fun c => ?_)
    · rw [if_pos c] at h
      exact r_vret rfl dJ7_fill_53178_20 ⟨rfl, rfl, Option.some.inj h⟩
    · rw [if_neg c] at h
      refine r_aload_n 0 dJ7_fill_53178_10 rfl rfl ?_
      refine r_iload_n 2 dJ7_fill_53178_11 rfl rfl ?_
      refine r_iload_n 1 dJ7_fill_53178_12 rfl rfl ?_
      obtain ⟨c1, h⟩ := g_ite h
      refine as_21 (k_b_in c1) dJ7_fill_53178_13 ?_
      generalize sA S 21 x2.toNatClampNeg x1 = S2 at h ⊢
      replace h := g_let h
      refine r_iinc (q := 2) (v := x2 + (1 : Int32)) dJ7_fill_53178_14 rfl rfl (by decide) rfl ?_
      refine r_goto (t := 5) dJ7_fill_53178_17 (by decide) ?_
      refine r_sub [1, 2, 0, 3] rfl ?_
      exact ih _ _ _ _ _ h
set_option maxRecDepth 100000 in
set_option maxHeartbeats 4000000 in
theorem w_J7_fill_53178_a21_0 {D : k_D} {dy : Nat → Nat} (x1 : Int32) (S : St) (out : St) (h : f_J7_fill_53178_a21 x1 S = some out) : Rn yJ7_fill_53178 cJ7_fill_53178 4 none (k_rm 0) 0 0 D dy S (k_Pv dy out) 0 [(0, .ref (D.2.2 21)), (1, .int x1)] [] := by
    unfold f_J7_fill_53178_a21 at h
    refine r_iconst (v := 0) dJ7_fill_53178_0 rfl ?_
    refine r_istore_n dJ7_fill_53178_1 rfl (by decide) rfl ?_
    refine r_aload_n 1 dJ7_fill_53178_2 rfl rfl ?_
    refine ln_21 dJ7_fill_53178_3 ?_
    refine r_istore_n dJ7_fill_53178_4 rfl (by decide) rfl ?_
    refine r_sub [2, 3, 1, 0] rfl ?_
    exact w_J7_fill_53178_a21_5 _ _ _ _ _ _ h
theorem ok_J7_fill_53178_a21 {D : k_D} {dy : Nat → Nat} {x1 : Int32} {S : St} {out : St} (h : f_J7_fill_53178_a21 x1 S = some out) : Sp yJ7_fill_53178 cJ7_fill_53178 4 none (k_rm 0) D dy S [.ref (D.2.2 21), .int x1] (k_Pv dy out) := Sp.of (by decide +kernel) (Nat.le_of_ble_eq_true rfl) (w_J7_fill_53178_a21_0 _ S out h)
noncomputable def f_X11_isDancer_15 (s0 : Int32) (S : St) : Option (Int32 × St) := if s0 = 0 ∨ s0 = 1 then some (s0, S) else none
noncomputable def f_X11_isDancer_14 (S : St) : Option (Int32 × St) := f_X11_isDancer_15 (0 : Int32) S
noncomputable def f_X11_isDancer (x0 : Int32) (S : St) : Option (Int32 × St) := if x0 < 0 then f_X11_isDancer_14 S else if (8 : Int32) ≤ x0 then f_X11_isDancer_14 S else f_X11_isDancer_15 (1 : Int32) S
set_option maxRecDepth 100000 in
set_option maxHeartbeats 4000000 in
theorem w_X11_isDancer_15 {D : k_D} {dy : Nat → Nat} (s0 : Int32) (S : St) (out : Int32 × St) (h : f_X11_isDancer_15 s0 S = some out) : Rn yX11_isDancer cX11_isDancer 1 (some .boolean) (k_rm 0) 0 0 D dy S (k_Pi dy out) 15 [] [.int s0] := by
    unfold f_X11_isDancer_15 at h
    obtain ⟨c, h⟩ := g_ite h
    cases h
    exact r_zret rfl (k_zn c) dX11_isDancer_15 ⟨rfl, rfl, rfl⟩
set_option maxRecDepth 100000 in
set_option maxHeartbeats 4000000 in
theorem w_X11_isDancer_14 {D : k_D} {dy : Nat → Nat} (S : St) (out : Int32 × St) (h : f_X11_isDancer_14 S = some out) : Rn yX11_isDancer cX11_isDancer 1 (some .boolean) (k_rm 0) 0 0 D dy S (k_Pi dy out) 14 [] [] := by
    unfold f_X11_isDancer_14 at h
    refine r_iconst (v := 0) dX11_isDancer_14 rfl ?_
    exact w_X11_isDancer_15 _ _ _ h
set_option maxRecDepth 100000 in
set_option maxHeartbeats 4000000 in
theorem w_X11_isDancer_0 {D : k_D} {dy : Nat → Nat} (x0 : Int32) (S : St) (out : Int32 × St) (h : f_X11_isDancer x0 S = some out) : Rn yX11_isDancer cX11_isDancer 1 (some .boolean) (k_rm 0) 0 0 D dy S (k_Pi dy out) 0 [(0, .int x0)] [] := by
    unfold f_X11_isDancer at h
    refine r_iload_n 0 dX11_isDancer_0 rfl rfl ?_
    refine r_if_lt (t := 14) dX11_isDancer_1 (by decide) (fun c => ?_) (fun c => ?_)
    · rw [if_pos c] at h
      refine r_sub [] rfl ?_
      exact w_X11_isDancer_14 _ _ h
    · rw [if_neg c] at h
      refine r_iload_n 0 dX11_isDancer_4 rfl rfl ?_
      refine r_bipush (v := 8) dX11_isDancer_5 rfl ?_
      refine r_icmp_ge (t := 14) dX11_isDancer_7 (by decide) (fun c => ?_) (fun c => ?_)
      · rw [if_pos c] at h
        refine r_sub [] rfl ?_
        exact w_X11_isDancer_14 _ _ h
      · rw [if_neg c] at h
        refine r_iconst (v := 1) dX11_isDancer_10 rfl ?_
        refine r_goto (t := 15) dX11_isDancer_11 (by decide) ?_
        refine r_sub [] rfl ?_
        exact w_X11_isDancer_15 _ _ _ h
theorem ok_X11_isDancer {D : k_D} {dy : Nat → Nat} {x0 : Int32} {S : St} {out : Int32 × St} (h : f_X11_isDancer x0 S = some out) : Sp yX11_isDancer cX11_isDancer 1 (some .boolean) (k_rm 0) D dy S [.int x0] (k_Pi dy out) := Sp.of (by decide +kernel) (Nat.le_of_ble_eq_true rfl) (w_X11_isDancer_0 _ S out h)
noncomputable def f_X10_hasLaw_23 (s0 : Int32) (S : St) : Option (Int32 × St) := if s0 = 0 ∨ s0 = 1 then some (s0, S) else none
noncomputable def f_X10_hasLaw_22 (S : St) : Option (Int32 × St) := f_X10_hasLaw_23 (0 : Int32) S
noncomputable def f_X10_hasLaw (x1 : Int32) (S : St) : Option (Int32 × St) := if x1 < 0 then f_X10_hasLaw_22 S else if (gI S 3) ≤ x1 then f_X10_hasLaw_22 S else if (6 : Int32) ≤ x1 then f_X10_hasLaw_22 S else f_X10_hasLaw_23 (1 : Int32) S
set_option maxRecDepth 100000 in
set_option maxHeartbeats 4000000 in
theorem w_X10_hasLaw_23 {D : k_D} {dy : Nat → Nat} (s0 : Int32) (S : St) (out : Int32 × St) (h : f_X10_hasLaw_23 s0 S = some out) : Rn yX10_hasLaw cX10_hasLaw 2 (some .boolean) (k_rm 0) 0 0 D dy S (k_Pi dy out) 23 [] [.int s0] := by
    unfold f_X10_hasLaw_23 at h
    obtain ⟨c, h⟩ := g_ite h
    cases h
    exact r_zret rfl (k_zn c) dX10_hasLaw_23 ⟨rfl, rfl, rfl⟩
set_option maxRecDepth 100000 in
set_option maxHeartbeats 4000000 in
theorem w_X10_hasLaw_22 {D : k_D} {dy : Nat → Nat} (S : St) (out : Int32 × St) (h : f_X10_hasLaw_22 S = some out) : Rn yX10_hasLaw cX10_hasLaw 2 (some .boolean) (k_rm 0) 0 0 D dy S (k_Pi dy out) 22 [] [] := by
    unfold f_X10_hasLaw_22 at h
    refine r_iconst (v := 0) dX10_hasLaw_22 rfl ?_
    exact w_X10_hasLaw_23 _ _ _ h
set_option maxRecDepth 100000 in
set_option maxHeartbeats 4000000 in
theorem w_X10_hasLaw_0 {D : k_D} {dy : Nat → Nat} (x1 : Int32) (S : St) (out : Int32 × St) (h : f_X10_hasLaw x1 S = some out) : Rn yX10_hasLaw cX10_hasLaw 2 (some .boolean) (k_rm 0) 0 0 D dy S (k_Pi dy out) 0 [(0, .ref (D.2.2 0)), (1, .int x1)] [] := by
    unfold f_X10_hasLaw at h
    refine r_iload_n 1 dX10_hasLaw_0 rfl rfl ?_
    refine r_if_lt (t := 22) dX10_hasLaw_1 (by decide) (fun c => ?_) (fun c => ?_)
    · rw [if_pos c] at h
      refine r_sub [] rfl ?_
      exact w_X10_hasLaw_22 _ _ h
    · rw [if_neg c] at h
      refine r_iload_n 1 dX10_hasLaw_4 rfl rfl ?_
      refine r_aload_n 0 dX10_hasLaw_5 rfl rfl ?_
      refine gf_0_5 q_253 dX10_hasLaw_6 ?_
      refine r_icmp_ge (t := 22) dX10_hasLaw_9 (by decide) (fun c => ?_) (fun c => ?_)
      · rw [if_pos c] at h
        refine r_sub [] rfl ?_
        exact w_X10_hasLaw_22 _ _ h
      · rw [if_neg c] at h
        refine r_iload_n 1 dX10_hasLaw_12 rfl rfl ?_
        refine r_bipush (v := 6) dX10_hasLaw_13 rfl ?_
        refine r_icmp_ge (t := 22) dX10_hasLaw_15 (by decide) (fun c => ?_) (fun c => ?_)
        · rw [if_pos c] at h
          refine r_sub [] rfl ?_
          exact w_X10_hasLaw_22 _ _ h
        · rw [if_neg c] at h
          refine r_iconst (v := 1) dX10_hasLaw_18 rfl ?_
          refine r_goto (t := 23) dX10_hasLaw_19 (by decide) ?_
          refine r_sub [] rfl ?_
          exact w_X10_hasLaw_23 _ _ _ h
theorem ok_X10_hasLaw {D : k_D} {dy : Nat → Nat} {x1 : Int32} {S : St} {out : Int32 × St} (h : f_X10_hasLaw x1 S = some out) : Sp yX10_hasLaw cX10_hasLaw 2 (some .boolean) (k_rm 0) D dy S [.ref (D.2.2 0), .int x1] (k_Pi dy out) := Sp.of (by decide +kernel) (Nat.le_of_ble_eq_true rfl) (w_X10_hasLaw_0 _ S out h)
noncomputable def f_X10_lawInForce_24 (S : St) : Option (Nat × St) := some (0, S)
noncomputable def f_X10_lawInForce_24v1 (s0 : Nat) (S : St) : Option (Nat × St) := some (s0 + 1, S)
noncomputable def f_X10_lawInForce (S : St) : Option (Nat × St) := (f_X10_hasLaw (gI S 4) S).bind fun q5 => if q5.1 = 0 then f_X10_lawInForce_24 q5.2 else if k_b (gI q5.2 4) 6 = true then if gR q5.2 0 (gI q5.2 4).toNatClampNeg = 0 then f_X10_lawInForce_24 q5.2 else f_X10_lawInForce_24v1 (gR q5.2 0 (gI q5.2 4).toNatClampNeg - 1) q5.2 else none
set_option maxRecDepth 100000 in
set_option maxHeartbeats 4000000 in
theorem w_X10_lawInForce_24 {D : k_D} {dy : Nat → Nat} (S : St) (out : Nat × St) (h : f_X10_lawInForce_24 S = some out) : Rn yX10_lawInForce cX10_lawInForce 1 (some (.array .int)) (k_rm 1) 0 0 D dy S (k_Pc dy out) 24 [] [.null] := by
    unfold f_X10_lawInForce_24 at h
    cases h
    exact r_aret rfl (Or.inr ⟨_, rfl⟩) (Or.inl rfl) dX10_lawInForce_24 ⟨rfl, rfl, rfl⟩
set_option maxRecDepth 100000 in
set_option maxHeartbeats 4000000 in
theorem w_X10_lawInForce_24v1 {D : k_D} {dy : Nat → Nat} (s0 : Nat) (S : St) (out : Nat × St) (h : f_X10_lawInForce_24v1 s0 S = some out) : Rn yX10_lawInForce cX10_lawInForce 1 (some (.array .int)) (k_rm 1) 0 0 D dy S (k_Pc dy out) 24 [] [.ref (dy (30 + s0))] := by
    unfold f_X10_lawInForce_24v1 at h
    cases h
    exact r_aret rfl (Or.inr ⟨_, rfl⟩) (Or.inr ⟨_, rfl⟩) dX10_lawInForce_24 ⟨congrArg some (k_law_s _ _).symm, rfl, rfl⟩
set_option maxRecDepth 100000 in
set_option maxHeartbeats 4000000 in
theorem w_X10_lawInForce_0 {D : k_D} {dy : Nat → Nat} (S : St) (out : Nat × St) (h : f_X10_lawInForce S = some out) : Rn yX10_lawInForce cX10_lawInForce 1 (some (.array .int)) (k_rm 1) 0 0 D dy S (k_Pc dy out) 0 [(0, .ref (D.2.2 0))] [] := by
    unfold f_X10_lawInForce at h
    refine r_aload_n 0 dX10_lawInForce_0 rfl rfl ?_
    refine r_aload_n 0 dX10_lawInForce_1 rfl rfl ?_
    refine gf_0_6 q_255 dX10_lawInForce_2 ?_
    obtain ⟨q5, hq5, h⟩ := g_bind h
    refine r_callVi [.int (gI S 4)] [] q5 (ok_X10_hasLaw hq5) q_699 q_701 q_9 q_702 q_142 hd_X10_hasLaw (ce_0 D dy _) kc10.1 rfl ⟨Nat.le_of_ble_eq_true rfl, Nat.le_of_ble_eq_true rfl⟩ rfl rfl (Nat.le_of_ble_eq_true rfl) dX10_lawInForce_5 ?_
    refine r_if_eq (t := 23) dX10_lawInForce_8 (by decide) (fun c => ?_) (fun c => ?_)
    · rw [if_pos c] at h
      refine r_null dX10_lawInForce_23 ?_
      refine r_sub [] rfl ?_
      exact w_X10_lawInForce_24 _ _ h
    · rw [if_neg c] at h
      refine r_aload_n 0 dX10_lawInForce_11 rfl rfl ?_
      refine gf_0_4 q_252 dX10_lawInForce_12 ?_
      refine r_aload_n 0 dX10_lawInForce_15 rfl rfl ?_
      refine gf_0_6 q_255 dX10_lawInForce_16 ?_
      obtain ⟨c1, h⟩ := g_ite h
      refine r_aaldL (k_b_in c1) dX10_lawInForce_19 (fun c => ?_) (fun c => ?_)
      · rw [if_pos c] at h
        refine r_goto (t := 24) dX10_lawInForce_20 (by decide) ?_
        refine r_sub [] rfl ?_
        exact w_X10_lawInForce_24 _ _ h
      · rw [if_neg c] at h
        refine r_goto (t := 24) dX10_lawInForce_20 (by decide) ?_
        refine r_sub [] rfl ?_
        exact w_X10_lawInForce_24v1 _ _ _ h
theorem ok_X10_lawInForce {D : k_D} {dy : Nat → Nat} {S : St} {out : Nat × St} (h : f_X10_lawInForce S = some out) : Sp yX10_lawInForce cX10_lawInForce 1 (some (.array .int)) (k_rm 1) D dy S [.ref (D.2.2 0)] (k_Pc dy out) := Sp.of (by decide +kernel) (Nat.le_of_ble_eq_true rfl) (w_X10_lawInForce_0 S out h)
noncomputable def f_X10_lengthOfDebt_21 (S : St) : Option (Int32 × St) := some ((0 : Int32), S)
noncomputable def f_X10_lengthOfDebt_61 (s0 : Int32) (S : St) : Option (Int32 × St) := some (s0, S)
noncomputable def f_X10_lengthOfDebt_60 (S : St) : Option (Int32 × St) := f_X10_lengthOfDebt_61 (0 : Int32) S
noncomputable def f_X10_lengthOfDebt (x1 : Int32) (S : St) : Option (Int32 × St) := if x1 < 0 then f_X10_lengthOfDebt_21 S else if (gI S 1) ≤ x1 then f_X10_lengthOfDebt_21 S else if x1 < (16 : Int32) then if k_b x1 16 = true then if (gA S 5 x1.toNatClampNeg) < 0 then f_X10_lengthOfDebt_60 S else if (gI S 0) ≤ (gA S 5 x1.toNatClampNeg) then f_X10_lengthOfDebt_60 S else if (6 : Int32) ≤ (gA S 5 x1.toNatClampNeg) then f_X10_lengthOfDebt_60 S else if k_b (gA S 5 x1.toNatClampNeg) 6 = true then f_X10_lengthOfDebt_61 (gA S 1 (gA S 5 x1.toNatClampNeg).toNatClampNeg) S else none else none else f_X10_lengthOfDebt_21 S
set_option maxRecDepth 100000 in
set_option maxHeartbeats 4000000 in
theorem w_X10_lengthOfDebt_21 {D : k_D} {dy : Nat → Nat} (S : St) (out : Int32 × St) (h : f_X10_lengthOfDebt_21 S = some out) : Rn yX10_lengthOfDebt cX10_lengthOfDebt 3 (some .int) (k_rm 0) 0 0 D dy S (k_Pi dy out) 21 [] [] := by
    unfold f_X10_lengthOfDebt_21 at h
    refine r_iconst (v := 0) dX10_lengthOfDebt_21 rfl ?_
    cases h
    exact r_iret rfl dX10_lengthOfDebt_22 ⟨rfl, rfl, rfl⟩
set_option maxRecDepth 100000 in
set_option maxHeartbeats 4000000 in
theorem w_X10_lengthOfDebt_61 {D : k_D} {dy : Nat → Nat} (s0 : Int32) (S : St) (out : Int32 × St) (h : f_X10_lengthOfDebt_61 s0 S = some out) : Rn yX10_lengthOfDebt cX10_lengthOfDebt 3 (some .int) (k_rm 0) 0 0 D dy S (k_Pi dy out) 61 [] [.int s0] := by
    unfold f_X10_lengthOfDebt_61 at h
    cases h
    exact r_iret rfl dX10_lengthOfDebt_61 ⟨rfl, rfl, rfl⟩
set_option maxRecDepth 100000 in
set_option maxHeartbeats 4000000 in
theorem w_X10_lengthOfDebt_60 {D : k_D} {dy : Nat → Nat} (S : St) (out : Int32 × St) (h : f_X10_lengthOfDebt_60 S = some out) : Rn yX10_lengthOfDebt cX10_lengthOfDebt 3 (some .int) (k_rm 0) 0 0 D dy S (k_Pi dy out) 60 [] [] := by
    unfold f_X10_lengthOfDebt_60 at h
    refine r_iconst (v := 0) dX10_lengthOfDebt_60 rfl ?_
    exact w_X10_lengthOfDebt_61 _ _ _ h
set_option maxRecDepth 100000 in
set_option maxHeartbeats 4000000 in
theorem w_X10_lengthOfDebt_0 {D : k_D} {dy : Nat → Nat} (x1 : Int32) (S : St) (out : Int32 × St) (h : f_X10_lengthOfDebt x1 S = some out) : Rn yX10_lengthOfDebt cX10_lengthOfDebt 3 (some .int) (k_rm 0) 0 0 D dy S (k_Pi dy out) 0 [(0, .ref (D.2.2 0)), (1, .int x1)] [] := by
    unfold f_X10_lengthOfDebt at h
    refine r_iload_n 1 dX10_lengthOfDebt_0 rfl rfl ?_
    refine r_if_lt (t := 21) dX10_lengthOfDebt_1 (by decide) (fun c => ?_) (fun c => ?_)
    · rw [if_pos c] at h
      refine r_sub [] rfl ?_
      exact w_X10_lengthOfDebt_21 _ _ h
    · rw [if_neg c] at h
      refine r_iload_n 1 dX10_lengthOfDebt_4 rfl rfl ?_
      refine r_aload_n 0 dX10_lengthOfDebt_5 rfl rfl ?_
      refine gf_0_2 q_241 dX10_lengthOfDebt_6 ?_
      refine gfN_2_5 q_218 dX10_lengthOfDebt_9 ?_
      refine r_icmp_ge (t := 21) dX10_lengthOfDebt_12 (by decide) (fun c => ?_) (fun c => ?_)
      · rw [if_pos c] at h
        refine r_sub [] rfl ?_
        exact w_X10_lengthOfDebt_21 _ _ h
      · rw [if_neg c] at h
        refine r_iload_n 1 dX10_lengthOfDebt_15 rfl rfl ?_
        refine r_bipush (v := 16) dX10_lengthOfDebt_16 rfl ?_
        refine r_icmp_lt (t := 23) dX10_lengthOfDebt_18 (by decide) (fun c => ?_) (fun c => ?_)
        · rw [if_pos c] at h
          refine r_aload_n 0 dX10_lengthOfDebt_23 rfl rfl ?_
          refine gf_0_2 q_241 dX10_lengthOfDebt_24 ?_
          refine gfN_2_2 q_200 dX10_lengthOfDebt_27 ?_
          refine r_iload_n 1 dX10_lengthOfDebt_30 rfl rfl ?_
          obtain ⟨c1, h⟩ := g_ite h
          refine al_5 (k_b_in c1) dX10_lengthOfDebt_31 ?_
          refine r_istore_n dX10_lengthOfDebt_32 rfl (by decide) rfl ?_
          refine r_iload_n 0 dX10_lengthOfDebt_33 rfl rfl ?_
          refine r_if_lt (t := 60) dX10_lengthOfDebt_34 (by decide) (fun c => ?_) (fun c => ?_)
          · rw [if_pos c] at h
            refine r_sub [] rfl ?_
            exact w_X10_lengthOfDebt_60 _ _ h
          · rw [if_neg c] at h
            refine r_iload_n 0 dX10_lengthOfDebt_37 rfl rfl ?_
            refine r_aload_n 1 dX10_lengthOfDebt_38 rfl rfl ?_
            refine gf_0_1 q_238 dX10_lengthOfDebt_39 ?_
            refine r_icmp_ge (t := 60) dX10_lengthOfDebt_42 (by decide) (fun c => ?_) (fun c => ?_)
            · rw [if_pos c] at h
              refine r_sub [] rfl ?_
              exact w_X10_lengthOfDebt_60 _ _ h
            · rw [if_neg c] at h
              refine r_iload_n 0 dX10_lengthOfDebt_45 rfl rfl ?_
              refine r_bipush (v := 6) dX10_lengthOfDebt_46 rfl ?_
              refine r_icmp_ge (t := 60) dX10_lengthOfDebt_48 (by decide) (fun c => ?_) (fun c => ?_)
              · rw [if_pos c] at h
                refine r_sub [] rfl ?_
                exact w_X10_lengthOfDebt_60 _ _ h
              · rw [if_neg c] at h
                refine r_aload_n 1 dX10_lengthOfDebt_51 rfl rfl ?_
                refine gf_0_0 q_236 dX10_lengthOfDebt_52 ?_
                refine r_iload_n 0 dX10_lengthOfDebt_55 rfl rfl ?_
                obtain ⟨c2, h⟩ := g_ite h
                refine al_1 (k_b_in c2) dX10_lengthOfDebt_56 ?_
                refine r_goto (t := 61) dX10_lengthOfDebt_57 (by decide) ?_
                refine r_sub [] rfl ?_
                exact w_X10_lengthOfDebt_61 _ _ _ h
        · rw [if_neg c] at h
          refine r_sub [] rfl ?_
          exact w_X10_lengthOfDebt_21 _ _ h
theorem ok_X10_lengthOfDebt {D : k_D} {dy : Nat → Nat} {x1 : Int32} {S : St} {out : Int32 × St} (h : f_X10_lengthOfDebt x1 S = some out) : Sp yX10_lengthOfDebt cX10_lengthOfDebt 3 (some .int) (k_rm 0) D dy S [.ref (D.2.2 0), .int x1] (k_Pi dy out) := Sp.of (by decide +kernel) (Nat.le_of_ble_eq_true rfl) (w_X10_lengthOfDebt_0 _ S out h)
noncomputable def f_X3_joined_65 (s0 : Int64) (S : St) : Option (Int64 × St) := some (s0, S)
noncomputable def f_X3_joined_77 (s0 : Int64) (S : St) : Option (Int64 × St) := some (s0, S)
noncomputable def f_X3_joined_89 (s0 : Int64) (S : St) : Option (Int64 × St) := some (s0, S)
noncomputable def f_X3_joined_101 (s0 : Int64) (S : St) : Option (Int64 × St) := some (s0, S)
noncomputable def f_X3_joined (x0 : Int32) (x1 : Int64) (x3 : Int64) (S : St) : Option (Int64 × St) := if x0 = (6 : Int32) then some (x1 + x3, S) else if x0 = (7 : Int32) then some (x1 - x3, S) else if x0 = (8 : Int32) then some (x1 * x3, S) else if x0 = (9 : Int32) then if x3 = (0 : Int64) then f_X3_joined_65 (0 : Int64) S else if ¬ x3 = 0 then f_X3_joined_65 (x1 / x3) S else none else if x0 = (10 : Int32) then if x3 ≤ x1 then f_X3_joined_77 (0 : Int64) S else f_X3_joined_77 (1 : Int64) S else if x0 = (11 : Int32) then if x1 ≤ x3 then f_X3_joined_89 (0 : Int64) S else f_X3_joined_89 (1 : Int64) S else if x1 = x3 then f_X3_joined_101 (1 : Int64) S else f_X3_joined_101 (0 : Int64) S
set_option maxRecDepth 100000 in
set_option maxHeartbeats 4000000 in
theorem w_X3_joined_65 {D : k_D} {dy : Nat → Nat} (s0 : Int64) (S : St) (out : Int64 × St) (h : f_X3_joined_65 s0 S = some out) : Rn yX3_joined cX3_joined 5 (some .long) (k_rm 0) 0 0 D dy S (k_Pl dy out) 65 [] [.long s0] := by
    unfold f_X3_joined_65 at h
    cases h
    exact r_lret rfl dX3_joined_65 ⟨rfl, rfl, rfl⟩
set_option maxRecDepth 100000 in
set_option maxHeartbeats 4000000 in
theorem w_X3_joined_77 {D : k_D} {dy : Nat → Nat} (s0 : Int64) (S : St) (out : Int64 × St) (h : f_X3_joined_77 s0 S = some out) : Rn yX3_joined cX3_joined 5 (some .long) (k_rm 0) 0 0 D dy S (k_Pl dy out) 77 [] [.long s0] := by
    unfold f_X3_joined_77 at h
    cases h
    exact r_lret rfl dX3_joined_77 ⟨rfl, rfl, rfl⟩
set_option maxRecDepth 100000 in
set_option maxHeartbeats 4000000 in
theorem w_X3_joined_89 {D : k_D} {dy : Nat → Nat} (s0 : Int64) (S : St) (out : Int64 × St) (h : f_X3_joined_89 s0 S = some out) : Rn yX3_joined cX3_joined 5 (some .long) (k_rm 0) 0 0 D dy S (k_Pl dy out) 89 [] [.long s0] := by
    unfold f_X3_joined_89 at h
    cases h
    exact r_lret rfl dX3_joined_89 ⟨rfl, rfl, rfl⟩
set_option maxRecDepth 100000 in
set_option maxHeartbeats 4000000 in
theorem w_X3_joined_101 {D : k_D} {dy : Nat → Nat} (s0 : Int64) (S : St) (out : Int64 × St) (h : f_X3_joined_101 s0 S = some out) : Rn yX3_joined cX3_joined 5 (some .long) (k_rm 0) 0 0 D dy S (k_Pl dy out) 101 [] [.long s0] := by
    unfold f_X3_joined_101 at h
    cases h
    exact r_lret rfl dX3_joined_101 ⟨rfl, rfl, rfl⟩
set_option maxRecDepth 100000 in
set_option maxHeartbeats 4000000 in
theorem w_X3_joined_0 {D : k_D} {dy : Nat → Nat} (x0 : Int32) (x1 : Int64) (x3 : Int64) (S : St) (out : Int64 × St) (h : f_X3_joined x0 x1 x3 S = some out) : Rn yX3_joined cX3_joined 5 (some .long) (k_rm 0) 0 0 D dy S (k_Pl dy out) 0 [(0, .int x0), (1, .long x1), (3, .long x3)] [] := by
    unfold f_X3_joined at h
    refine r_iload_n 0 dX3_joined_0 rfl rfl ?_
    by_cases c6 : x0 = (6 : Int32)
    · rw [if_pos c6] at h
      refine r_tableIn (t := 40) (o := 39) dX3_joined_1 (by rw [c6]; decide) (by rw [c6]; decide) (by rw [c6]; rfl) (by decide) ?_
      refine r_lload_n 1 dX3_joined_40 rfl rfl ?_
      refine r_lload_n 2 dX3_joined_41 rfl rfl ?_
      refine r_ladd dX3_joined_42 ?_
      cases h
      exact r_lret rfl dX3_joined_43 ⟨rfl, rfl, rfl⟩
    rw [if_neg c6] at h
    by_cases c7 : x0 = (7 : Int32)
    · rw [if_pos c7] at h
      refine r_tableIn (t := 44) (o := 43) dX3_joined_1 (by rw [c7]; decide) (by rw [c7]; decide) (by rw [c7]; rfl) (by decide) ?_
      refine r_lload_n 1 dX3_joined_44 rfl rfl ?_
      refine r_lload_n 2 dX3_joined_45 rfl rfl ?_
      refine r_lsub dX3_joined_46 ?_
      cases h
      exact r_lret rfl dX3_joined_47 ⟨rfl, rfl, rfl⟩
    rw [if_neg c7] at h
    by_cases c8 : x0 = (8 : Int32)
    · rw [if_pos c8] at h
      refine r_tableIn (t := 48) (o := 47) dX3_joined_1 (by rw [c8]; decide) (by rw [c8]; decide) (by rw [c8]; rfl) (by decide) ?_
      refine r_lload_n 1 dX3_joined_48 rfl rfl ?_
      refine r_lload_n 2 dX3_joined_49 rfl rfl ?_
      refine r_lmul dX3_joined_50 ?_
      cases h
      exact r_lret rfl dX3_joined_51 ⟨rfl, rfl, rfl⟩
    rw [if_neg c8] at h
    by_cases c9 : x0 = (9 : Int32)
    · rw [if_pos c9] at h
      refine r_tableIn (t := 52) (o := 51) dX3_joined_1 (by rw [c9]; decide) (by rw [c9]; decide) (by rw [c9]; rfl) (by decide) ?_
      refine r_lload_n 2 dX3_joined_52 rfl rfl ?_
      refine r_lconst (v := 0) dX3_joined_53 rfl ?_
      refine r_lcmp dX3_joined_54 ?_
      refine r_if_ne (t := 62) dX3_joined_55 (by decide) (fun c => ?_) (fun c => ?_)
      · rw [if_neg (fun z => c (lc_eq.mpr z))] at h
        refine r_lload_n 1 dX3_joined_62 rfl rfl ?_
        refine r_lload_n 2 dX3_joined_63 rfl rfl ?_
        obtain ⟨c1, h⟩ := g_ite h
        refine r_ldiv dX3_joined_64 c1 ?_
        refine r_sub [] rfl ?_
        exact w_X3_joined_65 _ _ _ h
      · rw [if_pos (lc_eq.mp c)] at h
        refine r_lconst (v := 0) dX3_joined_58 rfl ?_
        refine r_goto (t := 65) dX3_joined_59 (by decide) ?_
        refine r_sub [] rfl ?_
        exact w_X3_joined_65 _ _ _ h
    rw [if_neg c9] at h
    by_cases c10 : x0 = (10 : Int32)
    · rw [if_pos c10] at h
      refine r_tableIn (t := 66) (o := 65) dX3_joined_1 (by rw [c10]; decide) (by rw [c10]; decide) (by rw [c10]; rfl) (by decide) ?_
      refine r_lload_n 1 dX3_joined_66 rfl rfl ?_
      refine r_lload_n 2 dX3_joined_67 rfl rfl ?_
      refine r_lcmp dX3_joined_68 ?_
      refine r_if_ge (t := 76) dX3_joined_69 (by decide) (fun c => ?_) (fun c => ?_)
      · rw [if_pos (lc_ge.mp c)] at h
        refine r_lconst (v := 0) dX3_joined_76 rfl ?_
        refine r_sub [] rfl ?_
        exact w_X3_joined_77 _ _ _ h
      · rw [if_neg (fun z => c (lc_ge.mpr z))] at h
        refine r_lconst (v := 1) dX3_joined_72 rfl ?_
        refine r_goto (t := 77) dX3_joined_73 (by decide) ?_
        refine r_sub [] rfl ?_
        exact w_X3_joined_77 _ _ _ h
    rw [if_neg c10] at h
    by_cases c11 : x0 = (11 : Int32)
    · rw [if_pos c11] at h
      refine r_tableIn (t := 78) (o := 77) dX3_joined_1 (by rw [c11]; decide) (by rw [c11]; decide) (by rw [c11]; rfl) (by decide) ?_
      refine r_lload_n 1 dX3_joined_78 rfl rfl ?_
      refine r_lload_n 2 dX3_joined_79 rfl rfl ?_
      refine r_lcmp dX3_joined_80 ?_
      refine r_if_le (t := 88) dX3_joined_81 (by decide) (fun c => ?_) (fun c => ?_)
      · rw [if_pos (lc_le.mp c)] at h
        refine r_lconst (v := 0) dX3_joined_88 rfl ?_
        refine r_sub [] rfl ?_
        exact w_X3_joined_89 _ _ _ h
      · rw [if_neg (fun z => c (lc_le.mpr z))] at h
        refine r_lconst (v := 1) dX3_joined_84 rfl ?_
        refine r_goto (t := 89) dX3_joined_85 (by decide) ?_
        refine r_sub [] rfl ?_
        exact w_X3_joined_89 _ _ _ h
    rw [if_neg c11] at h
    refine r_tableOut (t := 90) dX3_joined_1 (by have e6 := g_ne c6 (k := 6) rfl; have e7 := g_ne c7 (k := 7) rfl; have e8 := g_ne c8 (k := 8) rfl; have e9 := g_ne c9 (k := 9) rfl; have e10 := g_ne c10 (k := 10) rfl; have e11 := g_ne c11 (k := 11) rfl; omega) (by decide) ?_
    refine r_lload_n 1 dX3_joined_90 rfl rfl ?_
    refine r_lload_n 2 dX3_joined_91 rfl rfl ?_
    refine r_lcmp dX3_joined_92 ?_
    refine r_if_ne (t := 100) dX3_joined_93 (by decide) (fun c => ?_) (fun c => ?_)
    · rw [if_neg (fun z => c (lc_eq.mpr z))] at h
      refine r_lconst (v := 0) dX3_joined_100 rfl ?_
      refine r_sub [] rfl ?_
      exact w_X3_joined_101 _ _ _ h
    · rw [if_pos (lc_eq.mp c)] at h
      refine r_lconst (v := 1) dX3_joined_96 rfl ?_
      refine r_goto (t := 101) dX3_joined_97 (by decide) ?_
      refine r_sub [] rfl ?_
      exact w_X3_joined_101 _ _ _ h
theorem ok_X3_joined {D : k_D} {dy : Nat → Nat} {x0 : Int32} {x1 : Int64} {x3 : Int64} {S : St} {out : Int64 × St} (h : f_X3_joined x0 x1 x3 S = some out) : Sp yX3_joined cX3_joined 5 (some .long) (k_rm 0) D dy S [.int x0, .long x1, .long x3] (k_Pl dy out) := Sp.of (by decide +kernel) (Nat.le_of_ble_eq_true rfl) (w_X3_joined_0 _ _ _ S out h)
noncomputable def f_X3_pop_17 (S : St) : Option (St) := some S
noncomputable def f_X3_pop (S : St) : Option (St) := if (gI S 9) ≤ 0 then f_X3_pop_17 S else k_let (sI S 9 ((gI S 9) - (1 : Int32))) fun S1 => f_X3_pop_17 S1
set_option maxRecDepth 100000 in
set_option maxHeartbeats 4000000 in
theorem w_X3_pop_17 {D : k_D} {dy : Nat → Nat} (S : St) (out : St) (h : f_X3_pop_17 S = some out) : Rn yX3_pop cX3_pop 1 none (k_rm 0) 0 0 D dy S (k_Pv dy out) 17 [] [] := by
    unfold f_X3_pop_17 at h
    exact r_vret rfl dX3_pop_17 ⟨rfl, rfl, Option.some.inj h⟩
set_option maxRecDepth 100000 in
set_option maxHeartbeats 4000000 in
theorem w_X3_pop_0 {D : k_D} {dy : Nat → Nat} (S : St) (out : St) (h : f_X3_pop S = some out) : Rn yX3_pop cX3_pop 1 none (k_rm 0) 0 0 D dy S (k_Pv dy out) 0 [(0, .ref (D.2.2 17))] [] := by
    unfold f_X3_pop at h
    refine r_aload_n 0 dX3_pop_0 rfl rfl ?_
    refine gf_17_7 q_385 dX3_pop_1 ?_
    refine r_if_le (t := 17) dX3_pop_4 (by decide) (fun c => ?_) (fun c => ?_)
    · rw [if_pos c] at h
      refine r_sub [] rfl ?_
      exact w_X3_pop_17 _ _ h
    · rw [if_neg c] at h
      refine r_aload_n 0 dX3_pop_7 rfl rfl ?_
      refine r_dup dX3_pop_8 rfl ?_
      refine gf_17_7 q_385 dX3_pop_9 ?_
      refine r_iconst (v := 1) dX3_pop_12 rfl ?_
      refine r_isub dX3_pop_13 ?_
      refine pf_17_7 q_385 dX3_pop_14 ?_
      generalize sI S 9 ((gI S 9) - (1 : Int32)) = S1 at h ⊢
      replace h := g_let h
      refine r_sub [] rfl ?_
      exact w_X3_pop_17 _ _ h
theorem ok_X3_pop {D : k_D} {dy : Nat → Nat} {S : St} {out : St} (h : f_X3_pop S = some out) : Sp yX3_pop cX3_pop 1 none (k_rm 0) D dy S [.ref (D.2.2 17)] (k_Pv dy out) := Sp.of (by decide +kernel) (Nat.le_of_ble_eq_true rfl) (w_X3_pop_0 S out h)
noncomputable def f_X3_push_36 (S : St) : Option (St) := some S
noncomputable def f_X3_push (x1 : Int32) (S : St) : Option (St) := if (gI S 9) < 0 then f_X3_push_36 S else if (64 : Int32) ≤ (gI S 9) then f_X3_push_36 S else if k_b (gI S 9) 64 = true then k_let (sA S 22 (gI S 9).toNatClampNeg x1) fun S2 => k_let (sI S2 9 ((gI S2 9) + (1 : Int32))) fun S3 => f_X3_push_36 S3 else none
set_option maxRecDepth 100000 in
set_option maxHeartbeats 4000000 in
theorem w_X3_push_36 {D : k_D} {dy : Nat → Nat} (S : St) (out : St) (h : f_X3_push_36 S = some out) : Rn yX3_push cX3_push 2 none (k_rm 0) 0 0 D dy S (k_Pv dy out) 36 [] [] := by
    unfold f_X3_push_36 at h
    exact r_vret rfl dX3_push_36 ⟨rfl, rfl, Option.some.inj h⟩
set_option maxRecDepth 100000 in
set_option maxHeartbeats 4000000 in
theorem w_X3_push_0 {D : k_D} {dy : Nat → Nat} (x1 : Int32) (S : St) (out : St) (h : f_X3_push x1 S = some out) : Rn yX3_push cX3_push 2 none (k_rm 0) 0 0 D dy S (k_Pv dy out) 0 [(0, .ref (D.2.2 17)), (1, .int x1)] [] := by
    unfold f_X3_push at h
    refine r_aload_n 0 dX3_push_0 rfl rfl ?_
    refine gf_17_7 q_385 dX3_push_1 ?_
    refine r_if_lt (t := 36) dX3_push_4 (by decide) (fun c => ?_) (fun c => ?_)
    · rw [if_pos c] at h
      refine r_sub [] rfl ?_
      exact w_X3_push_36 _ _ h
    · rw [if_neg c] at h
      refine r_aload_n 0 dX3_push_7 rfl rfl ?_
      refine gf_17_7 q_385 dX3_push_8 ?_
      refine r_bipush (v := 64) dX3_push_11 rfl ?_
      refine r_icmp_ge (t := 36) dX3_push_13 (by decide) (fun c => ?_) (fun c => ?_)
      · rw [if_pos c] at h
        refine r_sub [] rfl ?_
        exact w_X3_push_36 _ _ h
      · rw [if_neg c] at h
        refine r_aload_n 0 dX3_push_16 rfl rfl ?_
        refine gf_17_6 q_384 dX3_push_17 ?_
        refine r_aload_n 0 dX3_push_20 rfl rfl ?_
        refine gf_17_7 q_385 dX3_push_21 ?_
        refine r_iload_n 1 dX3_push_24 rfl rfl ?_
        obtain ⟨c1, h⟩ := g_ite h
        refine as_22 (k_b_in c1) dX3_push_25 ?_
        generalize sA S 22 (gI S 9).toNatClampNeg x1 = S2 at h ⊢
        replace h := g_let h
        refine r_aload_n 0 dX3_push_26 rfl rfl ?_
        refine r_dup dX3_push_27 rfl ?_
        refine gf_17_7 q_385 dX3_push_28 ?_
        refine r_iconst (v := 1) dX3_push_31 rfl ?_
        refine r_iadd dX3_push_32 ?_
        refine pf_17_7 q_385 dX3_push_33 ?_
        generalize sI S2 9 ((gI S2 9) + (1 : Int32)) = S3 at h ⊢
        replace h := g_let h
        refine r_sub [] rfl ?_
        exact w_X3_push_36 _ _ h
theorem ok_X3_push {D : k_D} {dy : Nat → Nat} {x1 : Int32} {S : St} {out : St} (h : f_X3_push x1 S = some out) : Sp yX3_push cX3_push 2 none (k_rm 0) D dy S [.ref (D.2.2 17), .int x1] (k_Pv dy out) := Sp.of (by decide +kernel) (Nat.le_of_ble_eq_true rfl) (w_X3_push_0 _ S out h)
noncomputable def f_X3_join_17 (S : St) : Option (Int32 × St) := some ((0 : Int32), S)
noncomputable def f_X3_join_88 (S : St) : Option (Int32 × St) := some ((0 : Int32), S)
noncomputable def f_X3_join_61 (x1 : Int32) (x2 : Int64) (x4 : Int64) (S : St) : Option (Int32 × St) := (f_X3_joined x1 x2 x4 S).bind fun q65 => if (1000000000 : Int64) < q65.1 then f_X3_join_88 q65.2 else if (-1000000000 : Int64) ≤ q65.1 then (f_X3_pop q65.2).bind fun q91 => (f_X3_pop q91).bind fun q95 => (f_X3_push q65.1.toInt32 q95).bind fun q102 => some ((1 : Int32), q102) else f_X3_join_88 q65.2
noncomputable def f_X3_join (x1 : Int32) (S : St) : Option (Int32 × St) := if (gI S 9) < (2 : Int32) then f_X3_join_17 S else if (gI S 9) ≤ (64 : Int32) then if k_b ((gI S 9) - (2 : Int32)) 64 = true then if k_b ((gI S 9) - (1 : Int32)) 64 = true then if x1 = (9 : Int32) then if ((gA S 22 ((gI S 9) - (1 : Int32)).toNatClampNeg).toInt64) = (0 : Int64) then some ((0 : Int32), S) else f_X3_join_61 x1 ((gA S 22 ((gI S 9) - (2 : Int32)).toNatClampNeg).toInt64) ((gA S 22 ((gI S 9) - (1 : Int32)).toNatClampNeg).toInt64) S else f_X3_join_61 x1 ((gA S 22 ((gI S 9) - (2 : Int32)).toNatClampNeg).toInt64) ((gA S 22 ((gI S 9) - (1 : Int32)).toNatClampNeg).toInt64) S else none else none else f_X3_join_17 S
set_option maxRecDepth 100000 in
set_option maxHeartbeats 4000000 in
theorem w_X3_join_17 {D : k_D} {dy : Nat → Nat} (S : St) (out : Int32 × St) (h : f_X3_join_17 S = some out) : Rn yX3_join cX3_join 8 (some .boolean) (k_rm 1) 0 0 D dy S (k_Pi dy out) 17 [] [] := by
    unfold f_X3_join_17 at h
    refine r_iconst (v := 0) dX3_join_17 rfl ?_
    cases h
    exact r_zret rfl rfl dX3_join_18 ⟨rfl, rfl, rfl⟩
set_option maxRecDepth 100000 in
set_option maxHeartbeats 4000000 in
theorem w_X3_join_88 {D : k_D} {dy : Nat → Nat} (S : St) (out : Int32 × St) (h : f_X3_join_88 S = some out) : Rn yX3_join cX3_join 8 (some .boolean) (k_rm 1) 0 0 D dy S (k_Pi dy out) 88 [] [] := by
    unfold f_X3_join_88 at h
    refine r_iconst (v := 0) dX3_join_88 rfl ?_
    cases h
    exact r_zret rfl rfl dX3_join_89 ⟨rfl, rfl, rfl⟩
set_option maxRecDepth 100000 in
set_option maxHeartbeats 4000000 in
theorem w_X3_join_61 {D : k_D} {dy : Nat → Nat} (x1 : Int32) (x2 : Int64) (x4 : Int64) (S : St) (out : Int32 × St) (h : f_X3_join_61 x1 x2 x4 S = some out) : Rn yX3_join cX3_join 8 (some .boolean) (k_rm 1) 0 0 D dy S (k_Pi dy out) 61 [(0, .ref (D.2.2 17)), (1, .int x1), (2, .long x2), (4, .long x4)] [] := by
    unfold f_X3_join_61 at h
    refine r_iload_n 1 dX3_join_61 rfl rfl ?_
    refine r_lload_n 2 dX3_join_62 rfl rfl ?_
    refine r_lload 3 dX3_join_63 rfl ?_
    obtain ⟨q65, hq65, h⟩ := g_bind h
    refine r_callSl [.int x1, .long x2, .long x4] [] q65 (ok_X3_joined hq65) q_739 q_740 q_741 q_146 hd_X3_joined ⟨Nat.le_of_ble_eq_true rfl, Nat.le_of_ble_eq_true rfl⟩ rfl rfl (Nat.le_of_ble_eq_true rfl) dX3_join_65 ?_
    refine r_lstore dX3_join_68 (by decide) rfl ?_
    refine r_lload 0 dX3_join_70 rfl ?_
    refine r_ldc2 (v := 1000000000) q_742 dX3_join_72 ?_
    refine r_lcmp dX3_join_75 ?_
    refine r_if_gt (t := 88) dX3_join_76 (by decide) (fun c => ?_) (fun c => ?_)
    · rw [if_pos (lc_gt.mp c)] at h
      refine r_sub [] rfl ?_
      exact w_X3_join_88 _ _ h
    · rw [if_neg (fun z => c (lc_gt.mpr z))] at h
      refine r_lload 0 dX3_join_79 rfl ?_
      refine r_ldc2 (v := -1000000000) q_743 dX3_join_81 ?_
      refine r_lcmp dX3_join_84 ?_
      refine r_if_ge (t := 90) dX3_join_85 (by decide) (fun c => ?_) (fun c => ?_)
      · rw [if_pos (lc_ge.mp c)] at h
        refine r_aload_n 1 dX3_join_90 rfl rfl ?_
        obtain ⟨q91, hq91, h⟩ := g_bind h
        refine r_callVv [] [] q91 (ok_X3_pop hq91) q_731 q_733 q_16 q_734 q_146 hd_X3_pop (ce_17 D dy _) kc3.1 rfl ⟨Nat.le_of_ble_eq_true rfl, Nat.le_of_ble_eq_true rfl⟩ rfl rfl (Nat.le_of_ble_eq_true rfl) dX3_join_91 ?_
        refine r_aload_n 1 dX3_join_94 rfl rfl ?_
        obtain ⟨q95, hq95, h⟩ := g_bind h
        refine r_callVv [] [] q95 (ok_X3_pop hq95) q_731 q_733 q_16 q_734 q_146 hd_X3_pop (ce_17 D dy _) kc3.1 rfl ⟨Nat.le_of_ble_eq_true rfl, Nat.le_of_ble_eq_true rfl⟩ rfl rfl (Nat.le_of_ble_eq_true rfl) dX3_join_95 ?_
        refine r_aload_n 1 dX3_join_98 rfl rfl ?_
        refine r_lload 0 dX3_join_99 rfl ?_
        refine r_l2i dX3_join_101 ?_
        obtain ⟨q102, hq102, h⟩ := g_bind h
        refine r_callVv [.int q65.1.toInt32] [] q102 (ok_X3_push hq102) q_715 q_717 q_13 q_718 q_146 hd_X3_push (ce_17 D dy _) kc3.1 rfl ⟨Nat.le_of_ble_eq_true rfl, Nat.le_of_ble_eq_true rfl⟩ rfl rfl (Nat.le_of_ble_eq_true rfl) dX3_join_102 ?_
        refine r_iconst (v := 1) dX3_join_105 rfl ?_
        cases h
        exact r_zret rfl rfl dX3_join_106 ⟨rfl, rfl, rfl⟩
      · rw [if_neg (fun z => c (lc_ge.mpr z))] at h
        refine r_sub [] rfl ?_
        exact w_X3_join_88 _ _ h
set_option maxRecDepth 100000 in
set_option maxHeartbeats 4000000 in
theorem w_X3_join_0 {D : k_D} {dy : Nat → Nat} (x1 : Int32) (S : St) (out : Int32 × St) (h : f_X3_join x1 S = some out) : Rn yX3_join cX3_join 8 (some .boolean) (k_rm 1) 0 0 D dy S (k_Pi dy out) 0 [(0, .ref (D.2.2 17)), (1, .int x1)] [] := by
    unfold f_X3_join at h
    refine r_aload_n 0 dX3_join_0 rfl rfl ?_
    refine gf_17_7 q_385 dX3_join_1 ?_
    refine r_iconst (v := 2) dX3_join_4 rfl ?_
    refine r_icmp_lt (t := 17) dX3_join_5 (by decide) (fun c => ?_) (fun c => ?_)
    · rw [if_pos c] at h
      refine r_sub [] rfl ?_
      exact w_X3_join_17 _ _ h
    · rw [if_neg c] at h
      refine r_aload_n 0 dX3_join_8 rfl rfl ?_
      refine gf_17_7 q_385 dX3_join_9 ?_
      refine r_bipush (v := 64) dX3_join_12 rfl ?_
      refine r_icmp_le (t := 19) dX3_join_14 (by decide) (fun c => ?_) (fun c => ?_)
      · rw [if_pos c] at h
        refine r_aload_n 0 dX3_join_19 rfl rfl ?_
        refine gf_17_6 q_384 dX3_join_20 ?_
        refine r_aload_n 0 dX3_join_23 rfl rfl ?_
        refine gf_17_7 q_385 dX3_join_24 ?_
        refine r_iconst (v := 2) dX3_join_27 rfl ?_
        refine r_isub dX3_join_28 ?_
        obtain ⟨c1, h⟩ := g_ite h
        refine al_22 (k_b_in c1) dX3_join_29 ?_
        refine r_i2l dX3_join_30 ?_
        refine r_lstore_n dX3_join_31 rfl (by decide) rfl ?_
        refine r_aload_n 1 dX3_join_32 rfl rfl ?_
        refine gf_17_6 q_384 dX3_join_33 ?_
        refine r_aload_n 1 dX3_join_36 rfl rfl ?_
        refine gf_17_7 q_385 dX3_join_37 ?_
        refine r_iconst (v := 1) dX3_join_40 rfl ?_
        refine r_isub dX3_join_41 ?_
        obtain ⟨c2, h⟩ := g_ite h
        refine al_22 (k_b_in c2) dX3_join_42 ?_
        refine r_i2l dX3_join_43 ?_
        refine r_lstore dX3_join_44 (by decide) rfl ?_
        refine r_iload_n 3 dX3_join_46 rfl rfl ?_
        refine r_bipush (v := 9) dX3_join_47 rfl ?_
        refine r_icmp_ne (t := 61) dX3_join_49 (by decide) (fun c => ?_) (fun c => ?_)
        · rw [if_neg c] at h
          refine r_sub [2, 3, 1, 0] rfl ?_
          exact w_X3_join_61 _ _ _ _ _ h
        · rw [if_pos c] at h
          refine r_lload 0 dX3_join_52 rfl ?_
          refine r_lconst (v := 0) dX3_join_54 rfl ?_
          refine r_lcmp dX3_join_55 ?_
          refine r_if_ne (t := 61) dX3_join_56 (by decide) (fun c => ?_) (fun c => ?_)
          · rw [if_neg (fun z => c (lc_eq.mpr z))] at h
            refine r_sub [2, 3, 1, 0] rfl ?_
            exact w_X3_join_61 _ _ _ _ _ h
          · rw [if_pos (lc_eq.mp c)] at h
            refine r_iconst (v := 0) dX3_join_59 rfl ?_
            cases h
            exact r_zret rfl rfl dX3_join_60 ⟨rfl, rfl, rfl⟩
      · rw [if_neg c] at h
        refine r_sub [] rfl ?_
        exact w_X3_join_17 _ _ h
theorem ok_X3_join {D : k_D} {dy : Nat → Nat} {x1 : Int32} {S : St} {out : Int32 × St} (h : f_X3_join x1 S = some out) : Sp yX3_join cX3_join 8 (some .boolean) (k_rm 1) D dy S [.ref (D.2.2 17), .int x1] (k_Pi dy out) := Sp.of (by decide +kernel) (Nat.le_of_ble_eq_true rfl) (w_X3_join_0 _ S out h)
noncomputable def f_X3_top_31 (s0 : Int32) (S : St) : Option (Int32 × St) := some (s0, S)
noncomputable def f_X3_top_30 (S : St) : Option (Int32 × St) := f_X3_top_31 (0 : Int32) S
noncomputable def f_X3_top (S : St) : Option (Int32 × St) := if (gI S 9) ≤ 0 then f_X3_top_30 S else if (64 : Int32) < (gI S 9) then f_X3_top_30 S else if k_b ((gI S 9) - (1 : Int32)) 64 = true then f_X3_top_31 (gA S 22 ((gI S 9) - (1 : Int32)).toNatClampNeg) S else none
set_option maxRecDepth 100000 in
set_option maxHeartbeats 4000000 in
theorem w_X3_top_31 {D : k_D} {dy : Nat → Nat} (s0 : Int32) (S : St) (out : Int32 × St) (h : f_X3_top_31 s0 S = some out) : Rn yX3_top cX3_top 1 (some .int) (k_rm 0) 0 0 D dy S (k_Pi dy out) 31 [] [.int s0] := by
    unfold f_X3_top_31 at h
    cases h
    exact r_iret rfl dX3_top_31 ⟨rfl, rfl, rfl⟩
set_option maxRecDepth 100000 in
set_option maxHeartbeats 4000000 in
theorem w_X3_top_30 {D : k_D} {dy : Nat → Nat} (S : St) (out : Int32 × St) (h : f_X3_top_30 S = some out) : Rn yX3_top cX3_top 1 (some .int) (k_rm 0) 0 0 D dy S (k_Pi dy out) 30 [] [] := by
    unfold f_X3_top_30 at h
    refine r_iconst (v := 0) dX3_top_30 rfl ?_
    exact w_X3_top_31 _ _ _ h
set_option maxRecDepth 100000 in
set_option maxHeartbeats 4000000 in
theorem w_X3_top_0 {D : k_D} {dy : Nat → Nat} (S : St) (out : Int32 × St) (h : f_X3_top S = some out) : Rn yX3_top cX3_top 1 (some .int) (k_rm 0) 0 0 D dy S (k_Pi dy out) 0 [(0, .ref (D.2.2 17))] [] := by
    unfold f_X3_top at h
    refine r_aload_n 0 dX3_top_0 rfl rfl ?_
    refine gf_17_7 q_385 dX3_top_1 ?_
    refine r_if_le (t := 30) dX3_top_4 (by decide) (fun c => ?_) (fun c => ?_)
    · rw [if_pos c] at h
      refine r_sub [] rfl ?_
      exact w_X3_top_30 _ _ h
    · rw [if_neg c] at h
      refine r_aload_n 0 dX3_top_7 rfl rfl ?_
      refine gf_17_7 q_385 dX3_top_8 ?_
      refine r_bipush (v := 64) dX3_top_11 rfl ?_
      refine r_icmp_gt (t := 30) dX3_top_13 (by decide) (fun c => ?_) (fun c => ?_)
      · rw [if_pos c] at h
        refine r_sub [] rfl ?_
        exact w_X3_top_30 _ _ h
      · rw [if_neg c] at h
        refine r_aload_n 0 dX3_top_16 rfl rfl ?_
        refine gf_17_6 q_384 dX3_top_17 ?_
        refine r_aload_n 0 dX3_top_20 rfl rfl ?_
        refine gf_17_7 q_385 dX3_top_21 ?_
        refine r_iconst (v := 1) dX3_top_24 rfl ?_
        refine r_isub dX3_top_25 ?_
        obtain ⟨c1, h⟩ := g_ite h
        refine al_22 (k_b_in c1) dX3_top_26 ?_
        refine r_goto (t := 31) dX3_top_27 (by decide) ?_
        refine r_sub [] rfl ?_
        exact w_X3_top_31 _ _ _ h
theorem ok_X3_top {D : k_D} {dy : Nat → Nat} {S : St} {out : Int32 × St} (h : f_X3_top S = some out) : Sp yX3_top cX3_top 1 (some .int) (k_rm 0) D dy S [.ref (D.2.2 17)] (k_Pi dy out) := Sp.of (by decide +kernel) (Nat.le_of_ble_eq_true rfl) (w_X3_top_0 S out h)
noncomputable def f_X1_has_23 (s0 : Int32) (S : St) : Option (Int32 × St) := if s0 = 0 ∨ s0 = 1 then some (s0, S) else none
noncomputable def f_X1_has_22 (S : St) : Option (Int32 × St) := f_X1_has_23 (0 : Int32) S
noncomputable def f_X1_has (x1 : Int32) (S : St) : Option (Int32 × St) := if x1 < 0 then f_X1_has_22 S else if (gI S 1) ≤ x1 then f_X1_has_22 S else if (16 : Int32) ≤ x1 then f_X1_has_22 S else f_X1_has_23 (1 : Int32) S
set_option maxRecDepth 100000 in
set_option maxHeartbeats 4000000 in
theorem w_X1_has_23 {D : k_D} {dy : Nat → Nat} (s0 : Int32) (S : St) (out : Int32 × St) (h : f_X1_has_23 s0 S = some out) : Rn yX1_has cX1_has 2 (some .boolean) (k_rm 0) 0 0 D dy S (k_Pi dy out) 23 [] [.int s0] := by
    unfold f_X1_has_23 at h
    obtain ⟨c, h⟩ := g_ite h
    cases h
    exact r_zret rfl (k_zn c) dX1_has_23 ⟨rfl, rfl, rfl⟩
set_option maxRecDepth 100000 in
set_option maxHeartbeats 4000000 in
theorem w_X1_has_22 {D : k_D} {dy : Nat → Nat} (S : St) (out : Int32 × St) (h : f_X1_has_22 S = some out) : Rn yX1_has cX1_has 2 (some .boolean) (k_rm 0) 0 0 D dy S (k_Pi dy out) 22 [] [] := by
    unfold f_X1_has_22 at h
    refine r_iconst (v := 0) dX1_has_22 rfl ?_
    exact w_X1_has_23 _ _ _ h
set_option maxRecDepth 100000 in
set_option maxHeartbeats 4000000 in
theorem w_X1_has_0 {D : k_D} {dy : Nat → Nat} (x1 : Int32) (S : St) (out : Int32 × St) (h : f_X1_has x1 S = some out) : Rn yX1_has cX1_has 2 (some .boolean) (k_rm 0) 0 0 D dy S (k_Pi dy out) 0 [(0, .ref (D.2.2 2)), (1, .int x1)] [] := by
    unfold f_X1_has at h
    refine r_iload_n 1 dX1_has_0 rfl rfl ?_
    refine r_if_lt (t := 22) dX1_has_1 (by decide) (fun c => ?_) (fun c => ?_)
    · rw [if_pos c] at h
      refine r_sub [] rfl ?_
      exact w_X1_has_22 _ _ h
    · rw [if_neg c] at h
      refine r_iload_n 1 dX1_has_4 rfl rfl ?_
      refine r_aload_n 0 dX1_has_5 rfl rfl ?_
      refine gf_2_5 q_211 dX1_has_6 ?_
      refine r_icmp_ge (t := 22) dX1_has_9 (by decide) (fun c => ?_) (fun c => ?_)
      · rw [if_pos c] at h
        refine r_sub [] rfl ?_
        exact w_X1_has_22 _ _ h
      · rw [if_neg c] at h
        refine r_iload_n 1 dX1_has_12 rfl rfl ?_
        refine r_bipush (v := 16) dX1_has_13 rfl ?_
        refine r_icmp_ge (t := 22) dX1_has_15 (by decide) (fun c => ?_) (fun c => ?_)
        · rw [if_pos c] at h
          refine r_sub [] rfl ?_
          exact w_X1_has_22 _ _ h
        · rw [if_neg c] at h
          refine r_iconst (v := 1) dX1_has_18 rfl ?_
          refine r_goto (t := 23) dX1_has_19 (by decide) ?_
          refine r_sub [] rfl ?_
          exact w_X1_has_23 _ _ _ h
theorem ok_X1_has {D : k_D} {dy : Nat → Nat} {x1 : Int32} {S : St} {out : Int32 × St} (h : f_X1_has x1 S = some out) : Sp yX1_has cX1_has 2 (some .boolean) (k_rm 0) D dy S [.ref (D.2.2 2), .int x1] (k_Pi dy out) := Sp.of (by decide +kernel) (Nat.le_of_ble_eq_true rfl) (w_X1_has_0 _ S out h)
noncomputable def f_X3_wordOf_140 (s0 : Int32) (S : St) : Option (Int32 × St) := some (s0, S)
noncomputable def f_X3_wordOf (x1 : Int32) (x2 : Int32) (S : St) : Option (Int32 × St) := (f_X1_has x2 S).bind fun q5 => if q5.1 = 0 then some ((0 : Int32), q5.2) else if k_b x2 16 = true then if x1 = (0 : Int32) then some (gA q5.2 3 x2.toNatClampNeg, q5.2) else if x1 = (1 : Int32) then if k_b x2 16 = true then some (gA q5.2 4 x2.toNatClampNeg, q5.2) else none else if x1 = (2 : Int32) then if k_b x2 16 = true then some (gA q5.2 5 x2.toNatClampNeg, q5.2) else none else if x1 = (3 : Int32) then (f_X10_lengthOfDebt x2 q5.2).bind fun q91 => some (q91.1, q91.2) else if x1 = (4 : Int32) then if k_b x2 16 = true then some (gA q5.2 6 x2.toNatClampNeg, q5.2) else none else if x1 = (5 : Int32) then if k_b x2 16 = true then some ((gI q5.2 2) - (gA q5.2 7 x2.toNatClampNeg), q5.2) else none else (f_X11_isDancer (gA q5.2 3 x2.toNatClampNeg) q5.2).bind fun q124 => if q124.1 = 0 then f_X3_wordOf_140 (0 : Int32) q124.2 else if k_b (gA q5.2 3 x2.toNatClampNeg) 8 = true then f_X3_wordOf_140 (gA q124.2 21 (gA q5.2 3 x2.toNatClampNeg).toNatClampNeg) q124.2 else none else none
set_option maxRecDepth 100000 in
set_option maxHeartbeats 4000000 in
theorem w_X3_wordOf_140 {D : k_D} {dy : Nat → Nat} (s0 : Int32) (S : St) (out : Int32 × St) (h : f_X3_wordOf_140 s0 S = some out) : Rn yX3_wordOf cX3_wordOf 4 (some .int) (k_rm 1) 0 0 D dy S (k_Pi dy out) 140 [] [.int s0] := by
    unfold f_X3_wordOf_140 at h
    cases h
    exact r_iret rfl dX3_wordOf_140 ⟨rfl, rfl, rfl⟩
set_option maxRecDepth 100000 in
set_option maxHeartbeats 4000000 in
theorem w_X3_wordOf_0 {D : k_D} {dy : Nat → Nat} (x1 : Int32) (x2 : Int32) (S : St) (out : Int32 × St) (h : f_X3_wordOf x1 x2 S = some out) : Rn yX3_wordOf cX3_wordOf 4 (some .int) (k_rm 1) 0 0 D dy S (k_Pi dy out) 0 [(0, .ref (D.2.2 17)), (1, .int x1), (2, .int x2)] [] := by
    unfold f_X3_wordOf at h
    refine r_aload_n 0 dX3_wordOf_0 rfl rfl ?_
    refine gf_17_1 q_370 dX3_wordOf_1 ?_
    refine r_iload_n 2 dX3_wordOf_4 rfl rfl ?_
    obtain ⟨q5, hq5, h⟩ := g_bind h
    refine r_callVNi [.int x2] [] q5 (ok_X1_has hq5) q_723 q_680 q_5 q_681 q_143 hd_X1_has (ce_2 D dy _) kc1.1 rfl ⟨Nat.le_of_ble_eq_true rfl, Nat.le_of_ble_eq_true rfl⟩ rfl rfl (Nat.le_of_ble_eq_true rfl) dX3_wordOf_5 ?_
    refine r_if_ne (t := 13) dX3_wordOf_8 (by decide) (fun c => ?_) (fun c => ?_)
    · rw [if_neg c] at h
      refine r_aload_n 0 dX3_wordOf_13 rfl rfl ?_
      refine gf_17_1 q_370 dX3_wordOf_14 ?_
      refine gfN_2_0 q_184 dX3_wordOf_17 ?_
      refine r_iload_n 2 dX3_wordOf_20 rfl rfl ?_
      obtain ⟨c1, h⟩ := g_ite h
      refine al_3 (k_b_in c1) dX3_wordOf_21 ?_
      refine r_istore_n dX3_wordOf_22 rfl (by decide) rfl ?_
      refine r_iload_n 2 dX3_wordOf_23 rfl rfl ?_
      by_cases c0 : x1 = (0 : Int32)
      · rw [if_pos c0] at h
        refine r_tableIn (t := 64) (o := 40) dX3_wordOf_24 (by rw [c0]; decide) (by rw [c0]; decide) (by rw [c0]; rfl) (by decide) ?_
        refine r_iload_n 0 dX3_wordOf_64 rfl rfl ?_
        cases h
        exact r_iret rfl dX3_wordOf_65 ⟨rfl, rfl, rfl⟩
      rw [if_neg c0] at h
      by_cases c1 : x1 = (1 : Int32)
      · rw [if_pos c1] at h
        refine r_tableIn (t := 66) (o := 42) dX3_wordOf_24 (by rw [c1]; decide) (by rw [c1]; decide) (by rw [c1]; rfl) (by decide) ?_
        refine r_aload_n 1 dX3_wordOf_66 rfl rfl ?_
        refine gf_17_1 q_370 dX3_wordOf_67 ?_
        refine gfN_2_1 q_193 dX3_wordOf_70 ?_
        refine r_iload_n 3 dX3_wordOf_73 rfl rfl ?_
        obtain ⟨c2, h⟩ := g_ite h
        refine al_4 (k_b_in c2) dX3_wordOf_74 ?_
        cases h
        exact r_iret rfl dX3_wordOf_75 ⟨rfl, rfl, rfl⟩
      rw [if_neg c1] at h
      by_cases c2 : x1 = (2 : Int32)
      · rw [if_pos c2] at h
        refine r_tableIn (t := 76) (o := 52) dX3_wordOf_24 (by rw [c2]; decide) (by rw [c2]; decide) (by rw [c2]; rfl) (by decide) ?_
        refine r_aload_n 1 dX3_wordOf_76 rfl rfl ?_
        refine gf_17_1 q_370 dX3_wordOf_77 ?_
        refine gfN_2_2 q_199 dX3_wordOf_80 ?_
        refine r_iload_n 3 dX3_wordOf_83 rfl rfl ?_
        obtain ⟨c3, h⟩ := g_ite h
        refine al_5 (k_b_in c3) dX3_wordOf_84 ?_
        cases h
        exact r_iret rfl dX3_wordOf_85 ⟨rfl, rfl, rfl⟩
      rw [if_neg c2] at h
      by_cases c3 : x1 = (3 : Int32)
      · rw [if_pos c3] at h
        refine r_tableIn (t := 86) (o := 62) dX3_wordOf_24 (by rw [c3]; decide) (by rw [c3]; decide) (by rw [c3]; rfl) (by decide) ?_
        refine r_aload_n 1 dX3_wordOf_86 rfl rfl ?_
        refine gf_17_0 q_369 dX3_wordOf_87 ?_
        refine r_iload_n 3 dX3_wordOf_90 rfl rfl ?_
        obtain ⟨q91, hq91, h⟩ := g_bind h
        refine r_callVNi [.int x2] [] q91 (ok_X10_lengthOfDebt hq91) q_703 q_705 q_10 q_706 q_142 hd_X10_lengthOfDebt (ce_0 D dy _) kc10.1 rfl ⟨Nat.le_of_ble_eq_true rfl, Nat.le_of_ble_eq_true rfl⟩ rfl rfl (Nat.le_of_ble_eq_true rfl) dX3_wordOf_91 ?_
        cases h
        exact r_iret rfl dX3_wordOf_94 ⟨rfl, rfl, rfl⟩
      rw [if_neg c3] at h
      by_cases c4 : x1 = (4 : Int32)
      · rw [if_pos c4] at h
        refine r_tableIn (t := 95) (o := 71) dX3_wordOf_24 (by rw [c4]; decide) (by rw [c4]; decide) (by rw [c4]; rfl) (by decide) ?_
        refine r_aload_n 1 dX3_wordOf_95 rfl rfl ?_
        refine gf_17_1 q_370 dX3_wordOf_96 ?_
        refine gfN_2_3 q_205 dX3_wordOf_99 ?_
        refine r_iload_n 3 dX3_wordOf_102 rfl rfl ?_
        obtain ⟨c4, h⟩ := g_ite h
        refine al_6 (k_b_in c4) dX3_wordOf_103 ?_
        cases h
        exact r_iret rfl dX3_wordOf_104 ⟨rfl, rfl, rfl⟩
      rw [if_neg c4] at h
      by_cases c5 : x1 = (5 : Int32)
      · rw [if_pos c5] at h
        refine r_tableIn (t := 105) (o := 81) dX3_wordOf_24 (by rw [c5]; decide) (by rw [c5]; decide) (by rw [c5]; rfl) (by decide) ?_
        refine r_aload_n 1 dX3_wordOf_105 rfl rfl ?_
        refine gf_17_0 q_369 dX3_wordOf_106 ?_
        refine gfN_0_3 q_251 dX3_wordOf_109 ?_
        refine r_aload_n 1 dX3_wordOf_112 rfl rfl ?_
        refine gf_17_1 q_370 dX3_wordOf_113 ?_
        refine gfN_2_4 q_210 dX3_wordOf_116 ?_
        refine r_iload_n 3 dX3_wordOf_119 rfl rfl ?_
        obtain ⟨c5, h⟩ := g_ite h
        refine al_7 (k_b_in c5) dX3_wordOf_120 ?_
        refine r_isub dX3_wordOf_121 ?_
        cases h
        exact r_iret rfl dX3_wordOf_122 ⟨rfl, rfl, rfl⟩
      rw [if_neg c5] at h
      refine r_tableOut (t := 123) dX3_wordOf_24 (by have e0 := g_ne c0 (k := 0) rfl; have e1 := g_ne c1 (k := 1) rfl; have e2 := g_ne c2 (k := 2) rfl; have e3 := g_ne c3 (k := 3) rfl; have e4 := g_ne c4 (k := 4) rfl; have e5 := g_ne c5 (k := 5) rfl; omega) (by decide) ?_
      refine r_iload_n 0 dX3_wordOf_123 rfl rfl ?_
      obtain ⟨q124, hq124, h⟩ := g_bind h
      refine r_callSNi [.int (gA q5.2 3 x2.toNatClampNeg)] [] q124 (ok_X11_isDancer hq124) q_694 q_668 q_669 q_141 hd_X11_isDancer ⟨Nat.le_of_ble_eq_true rfl, Nat.le_of_ble_eq_true rfl⟩ rfl rfl (Nat.le_of_ble_eq_true rfl) dX3_wordOf_124 ?_
      refine r_if_eq (t := 139) dX3_wordOf_127 (by decide) (fun c => ?_) (fun c => ?_)
      · rw [if_pos c] at h
        refine r_iconst (v := 0) dX3_wordOf_139 rfl ?_
        refine r_sub [] rfl ?_
        exact w_X3_wordOf_140 _ _ _ h
      · rw [if_neg c] at h
        refine r_aload_n 1 dX3_wordOf_130 rfl rfl ?_
        refine gf_17_5 q_383 dX3_wordOf_131 ?_
        refine r_iload_n 0 dX3_wordOf_134 rfl rfl ?_
        obtain ⟨c6, h⟩ := g_ite h
        refine al_21 (k_b_in c6) dX3_wordOf_135 ?_
        refine r_goto (t := 140) dX3_wordOf_136 (by decide) ?_
        refine r_sub [] rfl ?_
        exact w_X3_wordOf_140 _ _ _ h
    · rw [if_pos c] at h
      refine r_iconst (v := 0) dX3_wordOf_11 rfl ?_
      cases h
      exact r_iret rfl dX3_wordOf_12 ⟨rfl, rfl, rfl⟩
theorem ok_X3_wordOf {D : k_D} {dy : Nat → Nat} {x1 : Int32} {x2 : Int32} {S : St} {out : Int32 × St} (h : f_X3_wordOf x1 x2 S = some out) : Sp yX3_wordOf cX3_wordOf 4 (some .int) (k_rm 1) D dy S [.ref (D.2.2 17), .int x1, .int x2] (k_Pi dy out) := Sp.of (by decide +kernel) (Nat.le_of_ble_eq_true rfl) (w_X3_wordOf_0 _ _ S out h)
noncomputable def f_X3_holds_195 (s0 : Int32) (S : St) : Option (Int32 × St) := if s0 = 0 ∨ s0 = 1 then some (s0, S) else none
noncomputable def f_X3_holds_182 (S : St) : Option (Int32 × St) := (f_X3_top S).bind fun q183 => if q183.1 = (1 : Int32) then f_X3_holds_195 (1 : Int32) q183.2 else f_X3_holds_195 (0 : Int32) q183.2
noncomputable def f_X3_holds_176 (k11 : Nat → Int32 → Int32 → Int32 → Int32 → St → Option (Int32 × St)) (x1 : Nat) (x3 : Int32) (x4 : Int32) (x5 : Int32) (x6 : Int32) (S : St) : Option (Int32 × St) := k11 x1 x3 x4 x5 (x6 + (1 : Int32)) S
noncomputable def f_X3_holds_115 (k11 : Nat → Int32 → Int32 → Int32 → Int32 → St → Option (Int32 × St)) (x1 : Nat) (x3 : Int32) (x4 : Int32) (x5 : Int32) (x6 : Int32) (x8 : Int32) (s0 : Int32) (s1 : Int32) (S : St) : Option (Int32 × St) := if s0 = s1 then f_X3_holds_176 k11 x1 x3 x4 (if x5 < x8 then x8 else x5) x6 S else (f_X3_pop S).bind fun q131 => f_X3_holds_176 k11 x1 x3 x4 x5 x6 q131
noncomputable def f_X3_holds_99 (k11 : Nat → Int32 → Int32 → Int32 → Int32 → St → Option (Int32 × St)) (x1 : Nat) (x3 : Int32) (x4 : Int32) (x5 : Int32) (x6 : Int32) (x7 : Int32) (x8 : Int32) (S : St) : Option (Int32 × St) := (f_X3_top S).bind fun q100 => if x7 = (14 : Int32) then f_X3_holds_115 k11 x1 x3 x4 x5 x6 x8 q100.1 (1 : Int32) q100.2 else f_X3_holds_115 k11 x1 x3 x4 x5 x6 x8 q100.1 (0 : Int32) q100.2
noncomputable def f_X3_holds_11 : Nat → Nat → Int32 → Int32 → Int32 → Int32 → St → Option (Int32 × St)
  | 0, _, _, _, _, _, _ => none
  | n + 1, x1, x3, x4, x5, x6, S => (k_code S x1).bind fun a1 => if (Int32.ofNat a1.1) ≤ x6 then f_X3_holds_182 S else if x3 ≤ (x5 + (1 : Int32)) then f_X3_holds_182 S else (k_code S x1).bind fun a2 => if (Int32.ofNat a2.1) < x3 then f_X3_holds_182 S else (k_code S x1).bind fun a3 => if k_b x5 a3.1 = true then (k_code S x1).bind fun a5 => if k_b (x5 + (1 : Int32)) a5.1 = true then if (a3.2 x5.toNatClampNeg) = (4 : Int32) then (f_X3_push (a5.2 (x5 + (1 : Int32)).toNatClampNeg) S).bind fun q58 => f_X3_holds_176 (f_X3_holds_11 n) x1 x3 x4 (x5 + (2 : Int32)) x6 q58 else if (a3.2 x5.toNatClampNeg) = (5 : Int32) then (f_X3_wordOf (a5.2 (x5 + (1 : Int32)).toNatClampNeg) x4 S).bind fun q76 => (f_X3_push q76.1 q76.2).bind fun q79 => f_X3_holds_176 (f_X3_holds_11 n) x1 x3 x4 (x5 + (2 : Int32)) x6 q79 else if (a3.2 x5.toNatClampNeg) = (14 : Int32) then f_X3_holds_99 (f_X3_holds_11 n) x1 x3 x4 (x5 + (2 : Int32)) x6 (a3.2 x5.toNatClampNeg) (a5.2 (x5 + (1 : Int32)).toNatClampNeg) S else if (a3.2 x5.toNatClampNeg) = (15 : Int32) then f_X3_holds_99 (f_X3_holds_11 n) x1 x3 x4 (x5 + (2 : Int32)) x6 (a3.2 x5.toNatClampNeg) (a5.2 (x5 + (1 : Int32)).toNatClampNeg) S else if (a3.2 x5.toNatClampNeg) = (13 : Int32) then (f_X3_top S).bind fun q146 => (f_X3_pop q146.2).bind fun q153 => (f_X3_push ((1 : Int32) - q146.1) q153).bind fun q159 => f_X3_holds_176 (f_X3_holds_11 n) x1 x3 x4 (x5 + (2 : Int32)) x6 q159 else (f_X3_join (a3.2 x5.toNatClampNeg) S).bind fun q168 => if q168.1 = 0 then some ((0 : Int32), q168.2) else f_X3_holds_176 (f_X3_holds_11 n) x1 x3 x4 (x5 + (2 : Int32)) x6 q168.2 else none else none
noncomputable def f_X3_holds (x1 : Nat) (x2 : Int32) (x3 : Int32) (x4 : Int32) (S : St) : Option (Int32 × St) := k_let (sI S 9 (0 : Int32)) fun S1 => f_X3_holds_11 FU x1 x3 x4 x2 (0 : Int32) S1
set_option maxRecDepth 100000 in
set_option maxHeartbeats 4000000 in
theorem w_X3_holds_195 {D : k_D} {dy : Nat → Nat} (s0 : Int32) (S : St) (out : Int32 × St) (h : f_X3_holds_195 s0 S = some out) : Rn yX3_holds cX3_holds 10 (some .boolean) (k_rm 2) 0 0 D dy S (k_Pi dy out) 195 [] [.int s0] := by
    unfold f_X3_holds_195 at h
    obtain ⟨c, h⟩ := g_ite h
    cases h
    exact r_zret rfl (k_zn c) dX3_holds_195 ⟨rfl, rfl, rfl⟩
set_option maxRecDepth 100000 in
set_option maxHeartbeats 4000000 in
theorem w_X3_holds_182 {D : k_D} {dy : Nat → Nat} (S : St) (out : Int32 × St) (h : f_X3_holds_182 S = some out) : Rn yX3_holds cX3_holds 10 (some .boolean) (k_rm 2) 0 0 D dy S (k_Pi dy out) 182 [(0, .ref (D.2.2 17))] [] := by
    unfold f_X3_holds_182 at h
    refine r_aload_n 0 dX3_holds_182 rfl rfl ?_
    obtain ⟨q183, hq183, h⟩ := g_bind h
    refine r_callVi [] [] q183 (ok_X3_top hq183) q_724 q_726 q_15 q_727 q_146 hd_X3_top (ce_17 D dy _) kc3.1 rfl ⟨Nat.le_of_ble_eq_true rfl, Nat.le_of_ble_eq_true rfl⟩ rfl rfl (Nat.le_of_ble_eq_true rfl) dX3_holds_183 ?_
    refine r_iconst (v := 1) dX3_holds_186 rfl ?_
    refine r_icmp_ne (t := 194) dX3_holds_187 (by decide) (fun c => ?_) (fun c => ?_)
    · rw [if_neg c] at h
      refine r_iconst (v := 0) dX3_holds_194 rfl ?_
      refine r_sub [] rfl ?_
      exact w_X3_holds_195 _ _ _ h
    · rw [if_pos c] at h
      refine r_iconst (v := 1) dX3_holds_190 rfl ?_
      refine r_goto (t := 195) dX3_holds_191 (by decide) ?_
      refine r_sub [] rfl ?_
      exact w_X3_holds_195 _ _ _ h
set_option maxRecDepth 100000 in
set_option maxHeartbeats 4000000 in
theorem w_X3_holds_176 {D : k_D} {dy : Nat → Nat} {k11 : Nat → Int32 → Int32 → Int32 → Int32 → St → Option (Int32 × St)} (hk11 : ∀ (x1 : Nat) (x3 : Int32) (x4 : Int32) (x5 : Int32) (x6 : Int32) (S : St) (out : Int32 × St), k11 x1 x3 x4 x5 x6 S = some out → Rn yX3_holds cX3_holds 10 (some .boolean) (k_rm 2) 0 0 D dy S (k_Pi dy out) 11 [(0, .ref (D.2.2 17)), (1, .ref (dy (30 + x1))), (3, .int x3), (4, .int x4), (5, .int x5), (6, .int x6)] []) (x1 : Nat) (x3 : Int32) (x4 : Int32) (x5 : Int32) (x6 : Int32) (S : St) (out : Int32 × St) (h : f_X3_holds_176 k11 x1 x3 x4 x5 x6 S = some out) : Rn yX3_holds cX3_holds 10 (some .boolean) (k_rm 2) 0 0 D dy S (k_Pi dy out) 176 [(0, .ref (D.2.2 17)), (1, .ref (dy (30 + x1))), (3, .int x3), (4, .int x4), (5, .int x5), (6, .int x6)] [] := by
    unfold f_X3_holds_176 at h
    refine r_iinc (q := 5) (v := x6 + (1 : Int32)) dX3_holds_176 rfl rfl (by decide) rfl ?_
    refine r_goto (t := 11) dX3_holds_179 (by decide) ?_
    refine r_sub [1, 2, 3, 4, 5, 0] rfl ?_
    exact hk11 _ _ _ _ _ _ _ h
set_option maxRecDepth 100000 in
set_option maxHeartbeats 4000000 in
theorem w_X3_holds_115 {D : k_D} {dy : Nat → Nat} {k11 : Nat → Int32 → Int32 → Int32 → Int32 → St → Option (Int32 × St)} (hk11 : ∀ (x1 : Nat) (x3 : Int32) (x4 : Int32) (x5 : Int32) (x6 : Int32) (S : St) (out : Int32 × St), k11 x1 x3 x4 x5 x6 S = some out → Rn yX3_holds cX3_holds 10 (some .boolean) (k_rm 2) 0 0 D dy S (k_Pi dy out) 11 [(0, .ref (D.2.2 17)), (1, .ref (dy (30 + x1))), (3, .int x3), (4, .int x4), (5, .int x5), (6, .int x6)] []) (x1 : Nat) (x3 : Int32) (x4 : Int32) (x5 : Int32) (x6 : Int32) (x8 : Int32) (s0 : Int32) (s1 : Int32) (S : St) (out : Int32 × St) (h : f_X3_holds_115 k11 x1 x3 x4 x5 x6 x8 s0 s1 S = some out) : Rn yX3_holds cX3_holds 10 (some .boolean) (k_rm 2) 0 0 D dy S (k_Pi dy out) 115 [(0, .ref (D.2.2 17)), (1, .ref (dy (30 + x1))), (3, .int x3), (4, .int x4), (5, .int x5), (6, .int x6), (8, .int x8)] [.int s1, .int s0] := by
    unfold f_X3_holds_115 at h
    refine r_icmp_ne (t := 130) dX3_holds_115 (by decide) (fun c => ?_) (fun c => ?_)
    · rw [if_neg c] at h
      refine r_aload_n 0 dX3_holds_130 rfl rfl ?_
      obtain ⟨q131, hq131, h⟩ := g_bind h
      refine r_callVv [] [] q131 (ok_X3_pop hq131) q_731 q_733 q_16 q_734 q_146 hd_X3_pop (ce_17 D dy _) kc3.1 rfl ⟨Nat.le_of_ble_eq_true rfl, Nat.le_of_ble_eq_true rfl⟩ rfl rfl (Nat.le_of_ble_eq_true rfl) dX3_holds_131 ?_
      refine r_goto (t := 176) dX3_holds_134 (by decide) ?_
      refine r_sub [0, 1, 2, 3, 4, 5] rfl ?_
      exact w_X3_holds_176 hk11 _ _ _ _ _ _ _ h
    · rw [if_pos c] at h
      refine r_iload 4 dX3_holds_118 rfl ?_
      refine r_iload 6 dX3_holds_120 rfl ?_
      refine r_max q_728 q_729 q_155 q_730 ⟨Nat.le_of_ble_eq_true rfl, Nat.le_of_ble_eq_true rfl⟩ dX3_holds_122 ?_
      refine r_istore dX3_holds_125 (by decide) rfl ?_
      refine r_goto (t := 176) dX3_holds_127 (by decide) ?_
      refine r_sub [1, 2, 3, 4, 0, 5] rfl ?_
      exact w_X3_holds_176 hk11 _ _ _ _ _ _ _ h
set_option maxRecDepth 100000 in
set_option maxHeartbeats 4000000 in
theorem w_X3_holds_99 {D : k_D} {dy : Nat → Nat} {k11 : Nat → Int32 → Int32 → Int32 → Int32 → St → Option (Int32 × St)} (hk11 : ∀ (x1 : Nat) (x3 : Int32) (x4 : Int32) (x5 : Int32) (x6 : Int32) (S : St) (out : Int32 × St), k11 x1 x3 x4 x5 x6 S = some out → Rn yX3_holds cX3_holds 10 (some .boolean) (k_rm 2) 0 0 D dy S (k_Pi dy out) 11 [(0, .ref (D.2.2 17)), (1, .ref (dy (30 + x1))), (3, .int x3), (4, .int x4), (5, .int x5), (6, .int x6)] []) (x1 : Nat) (x3 : Int32) (x4 : Int32) (x5 : Int32) (x6 : Int32) (x7 : Int32) (x8 : Int32) (S : St) (out : Int32 × St) (h : f_X3_holds_99 k11 x1 x3 x4 x5 x6 x7 x8 S = some out) : Rn yX3_holds cX3_holds 10 (some .boolean) (k_rm 2) 0 0 D dy S (k_Pi dy out) 99 [(0, .ref (D.2.2 17)), (1, .ref (dy (30 + x1))), (3, .int x3), (4, .int x4), (5, .int x5), (6, .int x6), (7, .int x7), (8, .int x8)] [] := by
    unfold f_X3_holds_99 at h
    refine r_aload_n 0 dX3_holds_99 rfl rfl ?_
    obtain ⟨q100, hq100, h⟩ := g_bind h
    refine r_callVi [] [] q100 (ok_X3_top hq100) q_724 q_726 q_15 q_727 q_146 hd_X3_top (ce_17 D dy _) kc3.1 rfl ⟨Nat.le_of_ble_eq_true rfl, Nat.le_of_ble_eq_true rfl⟩ rfl rfl (Nat.le_of_ble_eq_true rfl) dX3_holds_100 ?_
    refine r_iload 6 dX3_holds_103 rfl ?_
    refine r_bipush (v := 14) dX3_holds_105 rfl ?_
    refine r_icmp_ne (t := 114) dX3_holds_107 (by decide) (fun c => ?_) (fun c => ?_)
    · rw [if_neg c] at h
      refine r_iconst (v := 0) dX3_holds_114 rfl ?_
      refine r_sub [0, 1, 2, 3, 4, 5, 7] rfl ?_
      exact w_X3_holds_115 hk11 _ _ _ _ _ _ _ _ _ _ h
    · rw [if_pos c] at h
      refine r_iconst (v := 1) dX3_holds_110 rfl ?_
      refine r_goto (t := 115) dX3_holds_111 (by decide) ?_
      refine r_sub [0, 1, 2, 3, 4, 5, 7] rfl ?_
      exact w_X3_holds_115 hk11 _ _ _ _ _ _ _ _ _ _ h
set_option maxRecDepth 100000 in
set_option maxHeartbeats 4000000 in
theorem w_X3_holds_11 {D : k_D} {dy : Nat → Nat} : ∀ (n : Nat) (x1 : Nat) (x3 : Int32) (x4 : Int32) (x5 : Int32) (x6 : Int32) (S : St) (out : Int32 × St), f_X3_holds_11 n x1 x3 x4 x5 x6 S = some out → Rn yX3_holds cX3_holds 10 (some .boolean) (k_rm 2) 0 0 D dy S (k_Pi dy out) 11 [(0, .ref (D.2.2 17)), (1, .ref (dy (30 + x1))), (3, .int x3), (4, .int x4), (5, .int x5), (6, .int x6)] [] := by
  intro n
  induction n with
  | zero => intro x1 x3 x4 x5 x6 S out h; cases h
  | succ n ih =>
    intro x1 x3 x4 x5 x6 S out h
    rw [f_X3_holds_11] at h
    refine r_iload 5 dX3_holds_11 rfl ?_
    refine r_aload_n 1 dX3_holds_13 rfl rfl ?_
    obtain ⟨a1, ha1, h⟩ := g_bind h
    refine r_alenC ha1 dX3_holds_14 ?_
    refine r_icmp_ge (t := 182) dX3_holds_15 (by decide) (fun c => ?_) (fun c => ?_)
    · rw [if_pos c] at h
      refine r_sub [0] rfl ?_
      exact w_X3_holds_182 _ _ h
    · rw [if_neg c] at h
      refine r_iload 4 dX3_holds_18 rfl ?_
      refine r_iconst (v := 1) dX3_holds_20 rfl ?_
      refine r_iadd dX3_holds_21 ?_
      refine r_iload_n 2 dX3_holds_22 rfl rfl ?_
      refine r_icmp_ge (t := 182) dX3_holds_23 (by decide) (fun c => ?_) (fun c => ?_)
      · rw [if_pos c] at h
        refine r_sub [0] rfl ?_
        exact w_X3_holds_182 _ _ h
      · rw [if_neg c] at h
        refine r_iload_n 2 dX3_holds_26 rfl rfl ?_
        refine r_aload_n 1 dX3_holds_27 rfl rfl ?_
        obtain ⟨a2, ha2, h⟩ := g_bind h
        refine r_alenC ha2 dX3_holds_28 ?_
        refine r_icmp_gt (t := 182) dX3_holds_29 (by decide) (fun c => ?_) (fun c => ?_)
        · rw [if_pos c] at h
          refine r_sub [0] rfl ?_
          exact w_X3_holds_182 _ _ h
        · rw [if_neg c] at h
          refine r_aload_n 1 dX3_holds_32 rfl rfl ?_
          refine r_iload 4 dX3_holds_33 rfl ?_
          obtain ⟨a3, ha3, h⟩ := g_bind h
          obtain ⟨c4, h⟩ := g_ite h
          refine r_ialdC ha3 (k_b_in c4) dX3_holds_35 ?_
          refine r_istore dX3_holds_36 (by decide) rfl ?_
          refine r_aload_n 2 dX3_holds_38 rfl rfl ?_
          refine r_iload 5 dX3_holds_39 rfl ?_
          refine r_iconst (v := 1) dX3_holds_41 rfl ?_
          refine r_iadd dX3_holds_42 ?_
          obtain ⟨a5, ha5, h⟩ := g_bind h
          obtain ⟨c6, h⟩ := g_ite h
          refine r_ialdC ha5 (k_b_in c6) dX3_holds_43 ?_
          refine r_istore dX3_holds_44 (by decide) rfl ?_
          refine r_iinc (q := 6) (v := x5 + (2 : Int32)) dX3_holds_46 rfl rfl (by decide) rfl ?_
          refine r_iload 2 dX3_holds_49 rfl ?_
          refine r_iconst (v := 4) dX3_holds_51 rfl ?_
          refine r_icmp_ne (t := 64) dX3_holds_52 (by decide) (fun c => ?_) (fun c => ?_)
          · rw [if_neg c] at h
            refine r_iload 2 dX3_holds_64 rfl ?_
            refine r_iconst (v := 5) dX3_holds_66 rfl ?_
            refine r_icmp_ne (t := 85) dX3_holds_67 (by decide) (fun c => ?_) (fun c => ?_)
            · rw [if_neg c] at h
              refine r_iload 2 dX3_holds_85 rfl ?_
              refine r_bipush (v := 14) dX3_holds_87 rfl ?_
              refine r_icmp_eq (t := 99) dX3_holds_89 (by decide) (fun c => ?_) (fun c => ?_)
              · rw [if_pos c] at h
                refine r_sub [3, 4, 5, 6, 0, 7, 2, 1] rfl ?_
                exact w_X3_holds_99 ih _ _ _ _ _ _ _ _ _ h
              · rw [if_neg c] at h
                refine r_iload 2 dX3_holds_92 rfl ?_
                refine r_bipush (v := 15) dX3_holds_94 rfl ?_
                refine r_icmp_ne (t := 137) dX3_holds_96 (by decide) (fun c => ?_) (fun c => ?_)
                · rw [if_neg c] at h
                  refine r_iload 2 dX3_holds_137 rfl ?_
                  refine r_bipush (v := 13) dX3_holds_139 rfl ?_
                  refine r_icmp_ne (t := 165) dX3_holds_141 (by decide) (fun c => ?_) (fun c => ?_)
                  · rw [if_neg c] at h
                    refine r_aload_n 3 dX3_holds_165 rfl rfl ?_
                    refine r_iload 2 dX3_holds_166 rfl ?_
                    obtain ⟨q168, hq168, h⟩ := g_bind h
                    refine r_callVi [.int (a3.2 x5.toNatClampNeg)] [] q168 (ok_X3_join hq168) q_735 q_737 q_17 q_738 q_146 hd_X3_join (ce_17 D dy _) kc3.1 rfl ⟨Nat.le_of_ble_eq_true rfl, Nat.le_of_ble_eq_true rfl⟩ rfl rfl (Nat.le_of_ble_eq_true rfl) dX3_holds_168 ?_
                    refine r_if_ne (t := 176) dX3_holds_171 (by decide) (fun c => ?_) (fun c => ?_)
                    · rw [if_neg c] at h
                      refine r_sub [3, 4, 5, 6, 0, 7] rfl ?_
                      exact w_X3_holds_176 ih _ _ _ _ _ _ _ h
                    · rw [if_pos c] at h
                      refine r_iconst (v := 0) dX3_holds_174 rfl ?_
                      cases h
                      exact r_zret rfl rfl dX3_holds_175 ⟨rfl, rfl, rfl⟩
                  · rw [if_pos c] at h
                    refine r_iconst (v := 1) dX3_holds_144 rfl ?_
                    refine r_aload_n 3 dX3_holds_145 rfl rfl ?_
                    obtain ⟨q146, hq146, h⟩ := g_bind h
                    refine r_callVi [] [.int (1 : Int32)] q146 (ok_X3_top hq146) q_724 q_726 q_15 q_727 q_146 hd_X3_top (ce_17 D dy _) kc3.1 rfl ⟨Nat.le_of_ble_eq_true rfl, Nat.le_of_ble_eq_true rfl⟩ rfl rfl (Nat.le_of_ble_eq_true rfl) dX3_holds_146 ?_
                    refine r_isub dX3_holds_149 ?_
                    refine r_istore dX3_holds_150 (by decide) rfl ?_
                    refine r_aload_n 4 dX3_holds_152 rfl rfl ?_
                    obtain ⟨q153, hq153, h⟩ := g_bind h
                    refine r_callVv [] [] q153 (ok_X3_pop hq153) q_731 q_733 q_16 q_734 q_146 hd_X3_pop (ce_17 D dy _) kc3.1 rfl ⟨Nat.le_of_ble_eq_true rfl, Nat.le_of_ble_eq_true rfl⟩ rfl rfl (Nat.le_of_ble_eq_true rfl) dX3_holds_153 ?_
                    refine r_aload_n 4 dX3_holds_156 rfl rfl ?_
                    refine r_iload 0 dX3_holds_157 rfl ?_
                    obtain ⟨q159, hq159, h⟩ := g_bind h
                    refine r_callVv [.int ((1 : Int32) - q146.1)] [] q159 (ok_X3_push hq159) q_715 q_717 q_13 q_718 q_146 hd_X3_push (ce_17 D dy _) kc3.1 rfl ⟨Nat.le_of_ble_eq_true rfl, Nat.le_of_ble_eq_true rfl⟩ rfl rfl (Nat.le_of_ble_eq_true rfl) dX3_holds_159 ?_
                    refine r_goto (t := 176) dX3_holds_162 (by decide) ?_
                    refine r_sub [4, 5, 6, 7, 1, 8] rfl ?_
                    exact w_X3_holds_176 ih _ _ _ _ _ _ _ h
                · rw [if_pos c] at h
                  refine r_sub [3, 4, 5, 6, 0, 7, 2, 1] rfl ?_
                  exact w_X3_holds_99 ih _ _ _ _ _ _ _ _ _ h
            · rw [if_pos c] at h
              refine r_aload_n 3 dX3_holds_70 rfl rfl ?_
              refine r_aload_n 3 dX3_holds_71 rfl rfl ?_
              refine r_iload 1 dX3_holds_72 rfl ?_
              refine r_iload 6 dX3_holds_74 rfl ?_
              obtain ⟨q76, hq76, h⟩ := g_bind h
              refine r_callVi [.int (a5.2 (x5 + (1 : Int32)).toNatClampNeg), .int x4] [.ref (D.2.2 17)] q76 (ok_X3_wordOf hq76) q_719 q_721 q_14 q_722 q_146 hd_X3_wordOf (ce_17 D dy _) kc3.1 rfl ⟨Nat.le_of_ble_eq_true rfl, Nat.le_of_ble_eq_true rfl⟩ rfl rfl (Nat.le_of_ble_eq_true rfl) dX3_holds_76 ?_
              obtain ⟨q79, hq79, h⟩ := g_bind h
              refine r_callVv [.int q76.1] [] q79 (ok_X3_push hq79) q_715 q_717 q_13 q_718 q_146 hd_X3_push (ce_17 D dy _) kc3.1 rfl ⟨Nat.le_of_ble_eq_true rfl, Nat.le_of_ble_eq_true rfl⟩ rfl rfl (Nat.le_of_ble_eq_true rfl) dX3_holds_79 ?_
              refine r_goto (t := 176) dX3_holds_82 (by decide) ?_
              refine r_sub [3, 4, 5, 6, 0, 7] rfl ?_
              exact w_X3_holds_176 ih _ _ _ _ _ _ _ h
          · rw [if_pos c] at h
            refine r_aload_n 3 dX3_holds_55 rfl rfl ?_
            refine r_iload 1 dX3_holds_56 rfl ?_
            obtain ⟨q58, hq58, h⟩ := g_bind h
            refine r_callVv [.int (a5.2 (x5 + (1 : Int32)).toNatClampNeg)] [] q58 (ok_X3_push hq58) q_715 q_717 q_13 q_718 q_146 hd_X3_push (ce_17 D dy _) kc3.1 rfl ⟨Nat.le_of_ble_eq_true rfl, Nat.le_of_ble_eq_true rfl⟩ rfl rfl (Nat.le_of_ble_eq_true rfl) dX3_holds_58 ?_
            refine r_goto (t := 176) dX3_holds_61 (by decide) ?_
            refine r_sub [3, 4, 5, 6, 0, 7] rfl ?_
            exact w_X3_holds_176 ih _ _ _ _ _ _ _ h
set_option maxRecDepth 100000 in
set_option maxHeartbeats 4000000 in
theorem w_X3_holds_0 {D : k_D} {dy : Nat → Nat} (x1 : Nat) (x2 : Int32) (x3 : Int32) (x4 : Int32) (S : St) (out : Int32 × St) (h : f_X3_holds x1 x2 x3 x4 S = some out) : Rn yX3_holds cX3_holds 10 (some .boolean) (k_rm 2) 0 0 D dy S (k_Pi dy out) 0 [(0, .ref (D.2.2 17)), (1, .ref (dy (30 + x1))), (2, .int x2), (3, .int x3), (4, .int x4)] [] := by
    unfold f_X3_holds at h
    refine r_aload_n 0 dX3_holds_0 rfl rfl ?_
    refine r_iconst (v := 0) dX3_holds_1 rfl ?_
    refine pf_17_7 q_385 dX3_holds_2 ?_
    generalize sI S 9 (0 : Int32) = S1 at h ⊢
    replace h := g_let h
    refine r_iload_n 2 dX3_holds_5 rfl rfl ?_
    refine r_istore dX3_holds_6 (by decide) rfl ?_
    refine r_iconst (v := 0) dX3_holds_8 rfl ?_
    refine r_istore dX3_holds_9 (by decide) rfl ?_
    refine r_sub [2, 3, 5, 6, 1, 0] rfl ?_
    exact w_X3_holds_11 _ _ _ _ _ _ _ _ h
theorem ok_X3_holds {D : k_D} {dy : Nat → Nat} {x1 : Nat} {x2 : Int32} {x3 : Int32} {x4 : Int32} {S : St} {out : Int32 × St} (h : f_X3_holds x1 x2 x3 x4 S = some out) : Sp yX3_holds cX3_holds 10 (some .boolean) (k_rm 2) D dy S [.ref (D.2.2 17), .ref (dy (30 + x1)), .int x2, .int x3, .int x4] (k_Pi dy out) := Sp.of (by decide +kernel) (Nat.le_of_ble_eq_true rfl) (w_X3_holds_0 _ _ _ _ S out h)
noncomputable def f_X3_hearDebt_123 (S : St) : Option (St) := some S
noncomputable def f_X3_hearDebt_45 (S : St) : Option (St) := some S
noncomputable def f_X3_hearDebt_114 (k5 : Nat → Int32 → Int32 → Int32 → St → Option (St)) (x1 : Nat) (x2 : Int32) (x4 : Int32) (x6 : Int32) (S : St) : Option (St) := k5 x1 x2 x6 (x4 + (1 : Int32)) S
noncomputable def f_X3_hearDebt_5 : Nat → Nat → Int32 → Int32 → Int32 → St → Option (St)
  | 0, _, _, _, _, _ => none
  | n + 1, x1, x2, x3, x4, S => if (12 : Int32) ≤ x4 then f_X3_hearDebt_123 S else (k_code S x1).bind fun a1 => if (Int32.ofNat a1.1) ≤ (x3 + (1 : Int32)) then f_X3_hearDebt_123 S else (k_code S x1).bind fun a2 => if k_b x3 a2.1 = true then (k_code S x1).bind fun a4 => if k_b (x3 + (1 : Int32)) a4.1 = true then if (a4.2 (x3 + (1 : Int32)).toNatClampNeg) ≤ x3 then f_X3_hearDebt_45 S else (k_code S x1).bind fun a6 => if (a4.2 (x3 + (1 : Int32)).toNatClampNeg) ≤ (Int32.ofNat a6.1) then (f_X3_holds x1 (x3 + (2 : Int32)) (a4.2 (x3 + (1 : Int32)).toNatClampNeg) x2 S).bind fun q54 => if q54.1 = 0 then f_X3_hearDebt_114 (f_X3_hearDebt_5 n) x1 x2 x4 (a4.2 (x3 + (1 : Int32)).toNatClampNeg) q54.2 else if (a2.2 x3.toNatClampNeg) = (1 : Int32) then if k_b (0 : Int32) 64 = true then if k_b x2 16 = true then k_let (sA q54.2 18 x2.toNatClampNeg (if (0 : Int32) < (if (gA q54.2 22 (0 : Int32).toNatClampNeg) < (999 : Int32) then (gA q54.2 22 (0 : Int32).toNatClampNeg) else (999 : Int32)) then (if (gA q54.2 22 (0 : Int32).toNatClampNeg) < (999 : Int32) then (gA q54.2 22 (0 : Int32).toNatClampNeg) else (999 : Int32)) else (0 : Int32))) fun S13 => f_X3_hearDebt_114 (f_X3_hearDebt_5 n) x1 x2 x4 (a4.2 (x3 + (1 : Int32)).toNatClampNeg) S13 else none else none else if (a2.2 x3.toNatClampNeg) = (3 : Int32) then if k_b x2 16 = true then k_let (sA q54.2 19 x2.toNatClampNeg (vp_nar .boolean (1 : Int32))) fun S10 => f_X3_hearDebt_114 (f_X3_hearDebt_5 n) x1 x2 x4 (a4.2 (x3 + (1 : Int32)).toNatClampNeg) S10 else none else if k_b x2 16 = true then k_let (sA q54.2 20 x2.toNatClampNeg (vp_nar .boolean (1 : Int32))) fun S8 => f_X3_hearDebt_114 (f_X3_hearDebt_5 n) x1 x2 x4 (a4.2 (x3 + (1 : Int32)).toNatClampNeg) S8 else none else f_X3_hearDebt_45 S else none else none
noncomputable def f_X3_hearDebt (x1 : Nat) (x2 : Int32) (S : St) : Option (St) := f_X3_hearDebt_5 FU x1 x2 (0 : Int32) (0 : Int32) S
set_option maxRecDepth 100000 in
set_option maxHeartbeats 4000000 in
theorem w_X3_hearDebt_123 {D : k_D} {dy : Nat → Nat} (S : St) (out : St) (h : f_X3_hearDebt_123 S = some out) : Rn yX3_hearDebt cX3_hearDebt 7 none (k_rm 3) 0 0 D dy S (k_Pv dy out) 123 [] [] := by
    unfold f_X3_hearDebt_123 at h
    exact r_vret rfl dX3_hearDebt_123 ⟨rfl, rfl, Option.some.inj h⟩
set_option maxRecDepth 100000 in
set_option maxHeartbeats 4000000 in
theorem w_X3_hearDebt_45 {D : k_D} {dy : Nat → Nat} (S : St) (out : St) (h : f_X3_hearDebt_45 S = some out) : Rn yX3_hearDebt cX3_hearDebt 7 none (k_rm 3) 0 0 D dy S (k_Pv dy out) 45 [] [] := by
    unfold f_X3_hearDebt_45 at h
    exact r_vret rfl dX3_hearDebt_45 ⟨rfl, rfl, Option.some.inj h⟩
set_option maxRecDepth 100000 in
set_option maxHeartbeats 4000000 in
theorem w_X3_hearDebt_114 {D : k_D} {dy : Nat → Nat} {k5 : Nat → Int32 → Int32 → Int32 → St → Option (St)} (hk5 : ∀ (x1 : Nat) (x2 : Int32) (x3 : Int32) (x4 : Int32) (S : St) (out : St), k5 x1 x2 x3 x4 S = some out → Rn yX3_hearDebt cX3_hearDebt 7 none (k_rm 3) 0 0 D dy S (k_Pv dy out) 5 [(0, .ref (D.2.2 17)), (1, .ref (dy (30 + x1))), (2, .int x2), (3, .int x3), (4, .int x4)] []) (x1 : Nat) (x2 : Int32) (x4 : Int32) (x6 : Int32) (S : St) (out : St) (h : f_X3_hearDebt_114 k5 x1 x2 x4 x6 S = some out) : Rn yX3_hearDebt cX3_hearDebt 7 none (k_rm 3) 0 0 D dy S (k_Pv dy out) 114 [(0, .ref (D.2.2 17)), (1, .ref (dy (30 + x1))), (2, .int x2), (4, .int x4), (6, .int x6)] [] := by
    unfold f_X3_hearDebt_114 at h
    refine r_iload 4 dX3_hearDebt_114 rfl ?_
    refine r_istore_n dX3_hearDebt_116 rfl (by decide) rfl ?_
    refine r_iinc (q := 4) (v := x4 + (1 : Int32)) dX3_hearDebt_117 rfl rfl (by decide) rfl ?_
    refine r_goto (t := 5) dX3_hearDebt_120 (by decide) ?_
    refine r_sub [2, 3, 4, 1, 0] rfl ?_
    exact hk5 _ _ _ _ _ _ h
set_option maxRecDepth 100000 in
set_option maxHeartbeats 4000000 in
theorem w_X3_hearDebt_5 {D : k_D} {dy : Nat → Nat} : ∀ (n : Nat) (x1 : Nat) (x2 : Int32) (x3 : Int32) (x4 : Int32) (S : St) (out : St), f_X3_hearDebt_5 n x1 x2 x3 x4 S = some out → Rn yX3_hearDebt cX3_hearDebt 7 none (k_rm 3) 0 0 D dy S (k_Pv dy out) 5 [(0, .ref (D.2.2 17)), (1, .ref (dy (30 + x1))), (2, .int x2), (3, .int x3), (4, .int x4)] [] := by
  intro n
  induction n with
  | zero => intro x1 x2 x3 x4 S out h; cases h
  | succ n ih =>
    intro x1 x2 x3 x4 S out h
    rw [f_X3_hearDebt_5] at h
    refine r_iload 4 dX3_hearDebt_5 rfl ?_
    refine r_bipush (v := 12) dX3_hearDebt_7 rfl ?_
    refine r_icmp_ge (t := 123) dX3_hearDebt_9 (by decide) (fun c => ?_) (fun c => ?_)
    · rw [if_pos c] at h
      refine r_sub [] rfl ?_
      exact w_X3_hearDebt_123 _ _ h
    · rw [if_neg c] at h
      refine r_iload_n 3 dX3_hearDebt_12 rfl rfl ?_
      refine r_iconst (v := 1) dX3_hearDebt_13 rfl ?_
      refine r_iadd dX3_hearDebt_14 ?_
      refine r_aload_n 1 dX3_hearDebt_15 rfl rfl ?_
      obtain ⟨a1, ha1, h⟩ := g_bind h
      refine r_alenC ha1 dX3_hearDebt_16 ?_
      refine r_icmp_ge (t := 123) dX3_hearDebt_17 (by decide) (fun c => ?_) (fun c => ?_)
      · rw [if_pos c] at h
        refine r_sub [] rfl ?_
        exact w_X3_hearDebt_123 _ _ h
      · rw [if_neg c] at h
        refine r_aload_n 1 dX3_hearDebt_20 rfl rfl ?_
        refine r_iload_n 3 dX3_hearDebt_21 rfl rfl ?_
        obtain ⟨a2, ha2, h⟩ := g_bind h
        obtain ⟨c3, h⟩ := g_ite h
        refine r_ialdC ha2 (k_b_in c3) dX3_hearDebt_22 ?_
        refine r_istore dX3_hearDebt_23 (by decide) rfl ?_
        refine r_aload_n 2 dX3_hearDebt_25 rfl rfl ?_
        refine r_iload_n 4 dX3_hearDebt_26 rfl rfl ?_
        refine r_iconst (v := 1) dX3_hearDebt_27 rfl ?_
        refine r_iadd dX3_hearDebt_28 ?_
        obtain ⟨a4, ha4, h⟩ := g_bind h
        obtain ⟨c5, h⟩ := g_ite h
        refine r_ialdC ha4 (k_b_in c5) dX3_hearDebt_29 ?_
        refine r_istore dX3_hearDebt_30 (by decide) rfl ?_
        refine r_iload 0 dX3_hearDebt_32 rfl ?_
        refine r_iload_n 5 dX3_hearDebt_34 rfl rfl ?_
        refine r_icmp_le (t := 45) dX3_hearDebt_35 (by decide) (fun c => ?_) (fun c => ?_)
        · rw [if_pos c] at h
          refine r_sub [] rfl ?_
          exact w_X3_hearDebt_45 _ _ h
        · rw [if_neg c] at h
          refine r_iload 0 dX3_hearDebt_38 rfl ?_
          refine r_aload_n 3 dX3_hearDebt_40 rfl rfl ?_
          obtain ⟨a6, ha6, h⟩ := g_bind h
          refine r_alenC ha6 dX3_hearDebt_41 ?_
          refine r_icmp_le (t := 46) dX3_hearDebt_42 (by decide) (fun c => ?_) (fun c => ?_)
          · rw [if_pos c] at h
            refine r_aload_n 2 dX3_hearDebt_46 rfl rfl ?_
            refine r_aload_n 3 dX3_hearDebt_47 rfl rfl ?_
            refine r_iload_n 5 dX3_hearDebt_48 rfl rfl ?_
            refine r_iconst (v := 2) dX3_hearDebt_49 rfl ?_
            refine r_iadd dX3_hearDebt_50 ?_
            refine r_iload 0 dX3_hearDebt_51 rfl ?_
            refine r_iload_n 4 dX3_hearDebt_53 rfl rfl ?_
            obtain ⟨q54, hq54, h⟩ := g_bind h
            refine r_callVi [.ref (dy (30 + x1)), .int (x3 + (2 : Int32)), .int (a4.2 (x3 + (1 : Int32)).toNatClampNeg), .int x2] [] q54 (ok_X3_holds hq54) q_711 q_713 q_12 q_714 q_146 hd_X3_holds (ce_17 D dy _) kc3.1 rfl ⟨Nat.le_of_ble_eq_true rfl, Nat.le_of_ble_eq_true rfl⟩ rfl rfl (Nat.le_of_ble_eq_true rfl) dX3_hearDebt_54 ?_
            refine r_if_eq (t := 114) dX3_hearDebt_57 (by decide) (fun c => ?_) (fun c => ?_)
            · rw [if_pos c] at h
              refine r_sub [2, 3, 4, 6, 0] rfl ?_
              exact w_X3_hearDebt_114 ih _ _ _ _ _ _ h
            · rw [if_neg c] at h
              refine r_iload 1 dX3_hearDebt_60 rfl ?_
              refine r_iconst (v := 1) dX3_hearDebt_62 rfl ?_
              refine r_icmp_ne (t := 91) dX3_hearDebt_63 (by decide) (fun c => ?_) (fun c => ?_)
              · rw [if_neg c] at h
                refine r_iload 1 dX3_hearDebt_91 rfl ?_
                refine r_iconst (v := 3) dX3_hearDebt_93 rfl ?_
                refine r_icmp_ne (t := 107) dX3_hearDebt_94 (by decide) (fun c => ?_) (fun c => ?_)
                · rw [if_neg c] at h
                  refine r_aload_n 2 dX3_hearDebt_107 rfl rfl ?_
                  refine gf_17_4 q_380 dX3_hearDebt_108 ?_
                  refine r_iload_n 4 dX3_hearDebt_111 rfl rfl ?_
                  refine r_iconst (v := 1) dX3_hearDebt_112 rfl ?_
                  obtain ⟨c7, h⟩ := g_ite h
                  refine as_20 (k_b_in c7) dX3_hearDebt_113 ?_
                  generalize sA q54.2 20 x2.toNatClampNeg (vp_nar .boolean (1 : Int32)) = S8 at h ⊢
                  replace h := g_let h
                  refine r_sub [2, 3, 4, 6, 0] rfl ?_
                  exact w_X3_hearDebt_114 ih _ _ _ _ _ _ h
                · rw [if_pos c] at h
                  refine r_aload_n 2 dX3_hearDebt_97 rfl rfl ?_
                  refine gf_17_3 q_374 dX3_hearDebt_98 ?_
                  refine r_iload_n 4 dX3_hearDebt_101 rfl rfl ?_
                  refine r_iconst (v := 1) dX3_hearDebt_102 rfl ?_
                  obtain ⟨c9, h⟩ := g_ite h
                  refine as_19 (k_b_in c9) dX3_hearDebt_103 ?_
                  generalize sA q54.2 19 x2.toNatClampNeg (vp_nar .boolean (1 : Int32)) = S10 at h ⊢
                  replace h := g_let h
                  refine r_goto (t := 114) dX3_hearDebt_104 (by decide) ?_
                  refine r_sub [2, 3, 4, 6, 0] rfl ?_
                  exact w_X3_hearDebt_114 ih _ _ _ _ _ _ h
              · rw [if_pos c] at h
                refine r_aload_n 2 dX3_hearDebt_66 rfl rfl ?_
                refine gf_17_2 q_371 dX3_hearDebt_67 ?_
                refine r_iload_n 4 dX3_hearDebt_70 rfl rfl ?_
                refine r_iconst (v := 0) dX3_hearDebt_71 rfl ?_
                refine r_sipush (v := 999) dX3_hearDebt_72 rfl ?_
                refine r_aload_n 2 dX3_hearDebt_75 rfl rfl ?_
                refine gf_17_6 q_384 dX3_hearDebt_76 ?_
                refine r_iconst (v := 0) dX3_hearDebt_79 rfl ?_
                obtain ⟨c11, h⟩ := g_ite h
                refine al_22 (k_b_in c11) dX3_hearDebt_80 ?_
                refine r_min q_744 q_745 q_155 q_746 ⟨Nat.le_of_ble_eq_true rfl, Nat.le_of_ble_eq_true rfl⟩ dX3_hearDebt_81 ?_
                refine r_max q_728 q_729 q_155 q_730 ⟨Nat.le_of_ble_eq_true rfl, Nat.le_of_ble_eq_true rfl⟩ dX3_hearDebt_84 ?_
                obtain ⟨c12, h⟩ := g_ite h
                refine as_18 (k_b_in c12) dX3_hearDebt_87 ?_
                generalize sA q54.2 18 x2.toNatClampNeg (if (0 : Int32) < (if (gA q54.2 22 (0 : Int32).toNatClampNeg) < (999 : Int32) then (gA q54.2 22 (0 : Int32).toNatClampNeg) else (999 : Int32)) then (if (gA q54.2 22 (0 : Int32).toNatClampNeg) < (999 : Int32) then (gA q54.2 22 (0 : Int32).toNatClampNeg) else (999 : Int32)) else (0 : Int32)) = S13 at h ⊢
                replace h := g_let h
                refine r_goto (t := 114) dX3_hearDebt_88 (by decide) ?_
                refine r_sub [2, 3, 4, 6, 0] rfl ?_
                exact w_X3_hearDebt_114 ih _ _ _ _ _ _ h
          · rw [if_neg c] at h
            refine r_sub [] rfl ?_
            exact w_X3_hearDebt_45 _ _ h
set_option maxRecDepth 100000 in
set_option maxHeartbeats 4000000 in
theorem w_X3_hearDebt_0 {D : k_D} {dy : Nat → Nat} (x1 : Nat) (x2 : Int32) (S : St) (out : St) (h : f_X3_hearDebt x1 x2 S = some out) : Rn yX3_hearDebt cX3_hearDebt 7 none (k_rm 3) 0 0 D dy S (k_Pv dy out) 0 [(0, .ref (D.2.2 17)), (1, .ref (dy (30 + x1))), (2, .int x2)] [] := by
    unfold f_X3_hearDebt at h
    refine r_iconst (v := 0) dX3_hearDebt_0 rfl ?_
    refine r_istore_n dX3_hearDebt_1 rfl (by decide) rfl ?_
    refine r_iconst (v := 0) dX3_hearDebt_2 rfl ?_
    refine r_istore dX3_hearDebt_3 (by decide) rfl ?_
    refine r_sub [2, 3, 4, 1, 0] rfl ?_
    exact w_X3_hearDebt_5 _ _ _ _ _ _ _ h
theorem ok_X3_hearDebt {D : k_D} {dy : Nat → Nat} {x1 : Nat} {x2 : Int32} {S : St} {out : St} (h : f_X3_hearDebt x1 x2 S = some out) : Sp yX3_hearDebt cX3_hearDebt 7 none (k_rm 3) D dy S [.ref (D.2.2 17), .ref (dy (30 + x1)), .int x2] (k_Pv dy out) := Sp.of (by decide +kernel) (Nat.le_of_ble_eq_true rfl) (w_X3_hearDebt_0 _ _ S out h)
noncomputable def f_X3_hear_131 (S : St) : Option (St) := some S
noncomputable def f_X3_hear_125 (k70 : Int32 → St → Option (St)) (x2 : Int32) (S : St) : Option (St) := k70 (x2 + (1 : Int32)) S
noncomputable def f_X3_hear_70 : Nat → Int32 → St → Option (St)
  | 0, _, _ => none
  | n + 1, x2, S => if (gI S 1) ≤ x2 then f_X3_hear_131 S else if (16 : Int32) ≤ x2 then f_X3_hear_131 S else (f_X10_lengthOfDebt x2 S).bind fun q97 => if k_b x2 16 = true then k_let (sA q97.2 18 x2.toNatClampNeg q97.1) fun S2 => if k_b x2 16 = true then k_let (sA S2 19 x2.toNatClampNeg (vp_nar .boolean (0 : Int32))) fun S4 => if k_b x2 16 = true then k_let (sA S4 20 x2.toNatClampNeg (vp_nar .boolean (0 : Int32))) fun S6 => f_X3_hear_125 (f_X3_hear_70 n) x2 S6 else none else none else none
noncomputable def f_X3_hear_125v1 (k70v1 : Nat → Int32 → St → Option (St)) (x1 : Nat) (x2 : Int32) (S : St) : Option (St) := k70v1 x1 (x2 + (1 : Int32)) S
noncomputable def f_X3_hear_70v1 : Nat → Nat → Int32 → St → Option (St)
  | 0, _, _, _ => none
  | n + 1, x1, x2, S => if (gI S 1) ≤ x2 then f_X3_hear_131 S else if (16 : Int32) ≤ x2 then f_X3_hear_131 S else (f_X10_lengthOfDebt x2 S).bind fun q97 => if k_b x2 16 = true then k_let (sA q97.2 18 x2.toNatClampNeg q97.1) fun S2 => if k_b x2 16 = true then k_let (sA S2 19 x2.toNatClampNeg (vp_nar .boolean (0 : Int32))) fun S4 => if k_b x2 16 = true then k_let (sA S4 20 x2.toNatClampNeg (vp_nar .boolean (0 : Int32))) fun S6 => (f_X3_hearDebt x1 x2 S6).bind fun q122 => f_X3_hear_125v1 (f_X3_hear_70v1 n) x1 x2 q122 else none else none else none
noncomputable def f_X3_hear_60 (S : St) : Option (St) := (f_X10_lawInForce S).bind fun q64 => if q64.1 = 0 then f_X3_hear_70 FU (0 : Int32) q64.2 else f_X3_hear_70v1 FU (q64.1 - 1) (0 : Int32) q64.2
noncomputable def f_X3_hear_54 (k10 : Int32 → St → Option (St)) (x1 : Int32) (S : St) : Option (St) := k10 (x1 + (1 : Int32)) S
noncomputable def f_X3_hear_10 : Nat → Int32 → St → Option (St)
  | 0, _, _ => none
  | n + 1, x1, S => if (gI S 1) ≤ x1 then f_X3_hear_60 S else if (16 : Int32) ≤ x1 then f_X3_hear_60 S else if k_b x1 16 = true then (f_X11_isDancer (gA S 3 x1.toNatClampNeg) S).bind fun q38 => if q38.1 = 0 then f_X3_hear_54 (f_X3_hear_10 n) x1 q38.2 else if k_b (gA S 3 x1.toNatClampNeg) 8 = true then if k_b (gA S 3 x1.toNatClampNeg) 8 = true then k_let (sA q38.2 21 (gA S 3 x1.toNatClampNeg).toNatClampNeg ((gA q38.2 21 (gA S 3 x1.toNatClampNeg).toNatClampNeg) + (1 : Int32))) fun S4 => f_X3_hear_54 (f_X3_hear_10 n) x1 S4 else none else none else none
noncomputable def f_X3_hear (S : St) : Option (St) := (f_J7_fill_53178_a21 (0 : Int32) S).bind fun q5 => f_X3_hear_10 FU (0 : Int32) q5
set_option maxRecDepth 100000 in
set_option maxHeartbeats 4000000 in
theorem w_X3_hear_131 {D : k_D} {dy : Nat → Nat} (S : St) (out : St) (h : f_X3_hear_131 S = some out) : Rn yX3_hear cX3_hear 3 none (k_rm 4) 0 0 D dy S (k_Pv dy out) 131 [] [] := by
    unfold f_X3_hear_131 at h
    exact r_vret rfl dX3_hear_131 ⟨rfl, rfl, Option.some.inj h⟩
set_option maxRecDepth 100000 in
set_option maxHeartbeats 4000000 in
theorem w_X3_hear_125 {D : k_D} {dy : Nat → Nat} {k70 : Int32 → St → Option (St)} (hk70 : ∀ (x2 : Int32) (S : St) (out : St), k70 x2 S = some out → Rn yX3_hear cX3_hear 3 none (k_rm 4) 0 0 D dy S (k_Pv dy out) 70 [(0, .ref (D.2.2 17)), (1, .null), (2, .int x2)] []) (x2 : Int32) (S : St) (out : St) (h : f_X3_hear_125 k70 x2 S = some out) : Rn yX3_hear cX3_hear 3 none (k_rm 4) 0 0 D dy S (k_Pv dy out) 125 [(0, .ref (D.2.2 17)), (1, .null), (2, .int x2)] [] := by
    unfold f_X3_hear_125 at h
    refine r_iinc (q := 2) (v := x2 + (1 : Int32)) dX3_hear_125 rfl rfl (by decide) rfl ?_
    refine r_goto (t := 70) dX3_hear_128 (by decide) ?_
    refine r_sub [1, 2, 0] rfl ?_
    exact hk70 _ _ _ h
set_option maxRecDepth 100000 in
set_option maxHeartbeats 4000000 in
theorem w_X3_hear_70 {D : k_D} {dy : Nat → Nat} : ∀ (n : Nat) (x2 : Int32) (S : St) (out : St), f_X3_hear_70 n x2 S = some out → Rn yX3_hear cX3_hear 3 none (k_rm 4) 0 0 D dy S (k_Pv dy out) 70 [(0, .ref (D.2.2 17)), (1, .null), (2, .int x2)] [] := by
  intro n
  induction n with
  | zero => intro x2 S out h; cases h
  | succ n ih =>
    intro x2 S out h
    rw [f_X3_hear_70] at h
    refine r_iload_n 2 dX3_hear_70 rfl rfl ?_
    refine r_aload_n 0 dX3_hear_71 rfl rfl ?_
    refine gf_17_1 q_370 dX3_hear_72 ?_
    refine gfN_2_5 q_212 dX3_hear_75 ?_
    refine r_icmp_ge (t := 131) dX3_hear_78 (by decide) (fun c => ?_) (fun c => ?_)
    · rw [if_pos c] at h
      refine r_sub [] rfl ?_
      exact w_X3_hear_131 _ _ h
    · rw [if_neg c] at h
      refine r_iload_n 2 dX3_hear_81 rfl rfl ?_
      refine r_bipush (v := 16) dX3_hear_82 rfl ?_
      refine r_icmp_ge (t := 131) dX3_hear_84 (by decide) (fun c => ?_) (fun c => ?_)
      · rw [if_pos c] at h
        refine r_sub [] rfl ?_
        exact w_X3_hear_131 _ _ h
      · rw [if_neg c] at h
        refine r_aload_n 0 dX3_hear_87 rfl rfl ?_
        refine gf_17_2 q_371 dX3_hear_88 ?_
        refine r_iload_n 2 dX3_hear_91 rfl rfl ?_
        refine r_aload_n 0 dX3_hear_92 rfl rfl ?_
        refine gf_17_0 q_369 dX3_hear_93 ?_
        refine r_iload_n 2 dX3_hear_96 rfl rfl ?_
        obtain ⟨q97, hq97, h⟩ := g_bind h
        refine r_callVNi [.int x2] [.int x2, .ref (D.2.2 18)] q97 (ok_X10_lengthOfDebt hq97) q_703 q_705 q_10 q_706 q_142 hd_X10_lengthOfDebt (ce_0 D dy _) kc10.1 rfl ⟨Nat.le_of_ble_eq_true rfl, Nat.le_of_ble_eq_true rfl⟩ rfl rfl (Nat.le_of_ble_eq_true rfl) dX3_hear_97 ?_
        obtain ⟨c1, h⟩ := g_ite h
        refine as_18 (k_b_in c1) dX3_hear_100 ?_
        generalize sA q97.2 18 x2.toNatClampNeg q97.1 = S2 at h ⊢
        replace h := g_let h
        refine r_aload_n 0 dX3_hear_101 rfl rfl ?_
        refine gf_17_3 q_374 dX3_hear_102 ?_
        refine r_iload_n 2 dX3_hear_105 rfl rfl ?_
        refine r_iconst (v := 0) dX3_hear_106 rfl ?_
        obtain ⟨c3, h⟩ := g_ite h
        refine as_19 (k_b_in c3) dX3_hear_107 ?_
        generalize sA S2 19 x2.toNatClampNeg (vp_nar .boolean (0 : Int32)) = S4 at h ⊢
        replace h := g_let h
        refine r_aload_n 0 dX3_hear_108 rfl rfl ?_
        refine gf_17_4 q_380 dX3_hear_109 ?_
        refine r_iload_n 2 dX3_hear_112 rfl rfl ?_
        refine r_iconst (v := 0) dX3_hear_113 rfl ?_
        obtain ⟨c5, h⟩ := g_ite h
        refine as_20 (k_b_in c5) dX3_hear_114 ?_
        generalize sA S4 20 x2.toNatClampNeg (vp_nar .boolean (0 : Int32)) = S6 at h ⊢
        replace h := g_let h
        refine r_aload_nN 1 dX3_hear_115 rfl rfl ?_
        refine r_ifnullN (t := 125) dX3_hear_116 (by decide) ?_
        exact w_X3_hear_125 ih _ _ _ h
set_option maxRecDepth 100000 in
set_option maxHeartbeats 4000000 in
theorem w_X3_hear_125v1 {D : k_D} {dy : Nat → Nat} {k70v1 : Nat → Int32 → St → Option (St)} (hk70v1 : ∀ (x1 : Nat) (x2 : Int32) (S : St) (out : St), k70v1 x1 x2 S = some out → Rn yX3_hear cX3_hear 3 none (k_rm 4) 0 0 D dy S (k_Pv dy out) 70 [(0, .ref (D.2.2 17)), (1, .ref (dy (30 + x1))), (2, .int x2)] []) (x1 : Nat) (x2 : Int32) (S : St) (out : St) (h : f_X3_hear_125v1 k70v1 x1 x2 S = some out) : Rn yX3_hear cX3_hear 3 none (k_rm 4) 0 0 D dy S (k_Pv dy out) 125 [(0, .ref (D.2.2 17)), (1, .ref (dy (30 + x1))), (2, .int x2)] [] := by
    unfold f_X3_hear_125v1 at h
    refine r_iinc (q := 2) (v := x2 + (1 : Int32)) dX3_hear_125 rfl rfl (by decide) rfl ?_
    refine r_goto (t := 70) dX3_hear_128 (by decide) ?_
    refine r_sub [1, 2, 0] rfl ?_
    exact hk70v1 _ _ _ _ h
set_option maxRecDepth 100000 in
set_option maxHeartbeats 4000000 in
theorem w_X3_hear_70v1 {D : k_D} {dy : Nat → Nat} : ∀ (n : Nat) (x1 : Nat) (x2 : Int32) (S : St) (out : St), f_X3_hear_70v1 n x1 x2 S = some out → Rn yX3_hear cX3_hear 3 none (k_rm 4) 0 0 D dy S (k_Pv dy out) 70 [(0, .ref (D.2.2 17)), (1, .ref (dy (30 + x1))), (2, .int x2)] [] := by
  intro n
  induction n with
  | zero => intro x1 x2 S out h; cases h
  | succ n ih =>
    intro x1 x2 S out h
    rw [f_X3_hear_70v1] at h
    refine r_iload_n 2 dX3_hear_70 rfl rfl ?_
    refine r_aload_n 0 dX3_hear_71 rfl rfl ?_
    refine gf_17_1 q_370 dX3_hear_72 ?_
    refine gfN_2_5 q_212 dX3_hear_75 ?_
    refine r_icmp_ge (t := 131) dX3_hear_78 (by decide) (fun c => ?_) (fun c => ?_)
    · rw [if_pos c] at h
      refine r_sub [] rfl ?_
      exact w_X3_hear_131 _ _ h
    · rw [if_neg c] at h
      refine r_iload_n 2 dX3_hear_81 rfl rfl ?_
      refine r_bipush (v := 16) dX3_hear_82 rfl ?_
      refine r_icmp_ge (t := 131) dX3_hear_84 (by decide) (fun c => ?_) (fun c => ?_)
      · rw [if_pos c] at h
        refine r_sub [] rfl ?_
        exact w_X3_hear_131 _ _ h
      · rw [if_neg c] at h
        refine r_aload_n 0 dX3_hear_87 rfl rfl ?_
        refine gf_17_2 q_371 dX3_hear_88 ?_
        refine r_iload_n 2 dX3_hear_91 rfl rfl ?_
        refine r_aload_n 0 dX3_hear_92 rfl rfl ?_
        refine gf_17_0 q_369 dX3_hear_93 ?_
        refine r_iload_n 2 dX3_hear_96 rfl rfl ?_
        obtain ⟨q97, hq97, h⟩ := g_bind h
        refine r_callVNi [.int x2] [.int x2, .ref (D.2.2 18)] q97 (ok_X10_lengthOfDebt hq97) q_703 q_705 q_10 q_706 q_142 hd_X10_lengthOfDebt (ce_0 D dy _) kc10.1 rfl ⟨Nat.le_of_ble_eq_true rfl, Nat.le_of_ble_eq_true rfl⟩ rfl rfl (Nat.le_of_ble_eq_true rfl) dX3_hear_97 ?_
        obtain ⟨c1, h⟩ := g_ite h
        refine as_18 (k_b_in c1) dX3_hear_100 ?_
        generalize sA q97.2 18 x2.toNatClampNeg q97.1 = S2 at h ⊢
        replace h := g_let h
        refine r_aload_n 0 dX3_hear_101 rfl rfl ?_
        refine gf_17_3 q_374 dX3_hear_102 ?_
        refine r_iload_n 2 dX3_hear_105 rfl rfl ?_
        refine r_iconst (v := 0) dX3_hear_106 rfl ?_
        obtain ⟨c3, h⟩ := g_ite h
        refine as_19 (k_b_in c3) dX3_hear_107 ?_
        generalize sA S2 19 x2.toNatClampNeg (vp_nar .boolean (0 : Int32)) = S4 at h ⊢
        replace h := g_let h
        refine r_aload_n 0 dX3_hear_108 rfl rfl ?_
        refine gf_17_4 q_380 dX3_hear_109 ?_
        refine r_iload_n 2 dX3_hear_112 rfl rfl ?_
        refine r_iconst (v := 0) dX3_hear_113 rfl ?_
        obtain ⟨c5, h⟩ := g_ite h
        refine as_20 (k_b_in c5) dX3_hear_114 ?_
        generalize sA S4 20 x2.toNatClampNeg (vp_nar .boolean (0 : Int32)) = S6 at h ⊢
        replace h := g_let h
        refine r_aload_n 1 dX3_hear_115 rfl rfl ?_
        refine r_ifnull dX3_hear_116 ?_
        refine r_aload_n 0 dX3_hear_119 rfl rfl ?_
        refine r_aload_n 1 dX3_hear_120 rfl rfl ?_
        refine r_iload_n 2 dX3_hear_121 rfl rfl ?_
        obtain ⟨q122, hq122, h⟩ := g_bind h
        refine r_callVv [.ref (dy (30 + x1)), .int x2] [] q122 (ok_X3_hearDebt hq122) q_707 q_709 q_11 q_710 q_146 hd_X3_hearDebt (ce_17 D dy _) kc3.1 rfl ⟨Nat.le_of_ble_eq_true rfl, Nat.le_of_ble_eq_true rfl⟩ rfl rfl (Nat.le_of_ble_eq_true rfl) dX3_hear_122 ?_
        exact w_X3_hear_125v1 ih _ _ _ _ h
set_option maxRecDepth 100000 in
set_option maxHeartbeats 4000000 in
theorem w_X3_hear_60 {D : k_D} {dy : Nat → Nat} (S : St) (out : St) (h : f_X3_hear_60 S = some out) : Rn yX3_hear cX3_hear 3 none (k_rm 4) 0 0 D dy S (k_Pv dy out) 60 [(0, .ref (D.2.2 17))] [] := by
    unfold f_X3_hear_60 at h
    refine r_aload_n 0 dX3_hear_60 rfl rfl ?_
    refine gf_17_0 q_369 dX3_hear_61 ?_
    obtain ⟨q64, hq64, h⟩ := g_bind h
    refine r_callVNc [] [] q64 (ok_X10_lawInForce hq64) q_695 q_697 q_8 q_698 q_142 hd_X10_lawInForce (ce_0 D dy _) kc10.1 rfl ⟨Nat.le_of_ble_eq_true rfl, Nat.le_of_ble_eq_true rfl⟩ rfl rfl (Nat.le_of_ble_eq_true rfl) dX3_hear_64 (fun c => ?_) (fun c => ?_)
    · rw [if_pos c] at h
      refine r_astore_nN dX3_hear_67 rfl (by decide) rfl ?_
      refine r_iconst (v := 0) dX3_hear_68 rfl ?_
      refine r_istore_n dX3_hear_69 rfl (by decide) rfl ?_
      refine r_sub [2, 1, 0] rfl ?_
      exact w_X3_hear_70 _ _ _ _ h
    · rw [if_neg c] at h
      refine r_astore_n dX3_hear_67 rfl (by decide) rfl ?_
      refine r_iconst (v := 0) dX3_hear_68 rfl ?_
      refine r_istore_n dX3_hear_69 rfl (by decide) rfl ?_
      refine r_sub [2, 1, 0] rfl ?_
      exact w_X3_hear_70v1 _ _ _ _ _ h
set_option maxRecDepth 100000 in
set_option maxHeartbeats 4000000 in
theorem w_X3_hear_54 {D : k_D} {dy : Nat → Nat} {k10 : Int32 → St → Option (St)} (hk10 : ∀ (x1 : Int32) (S : St) (out : St), k10 x1 S = some out → Rn yX3_hear cX3_hear 3 none (k_rm 4) 0 0 D dy S (k_Pv dy out) 10 [(0, .ref (D.2.2 17)), (1, .int x1)] []) (x1 : Int32) (S : St) (out : St) (h : f_X3_hear_54 k10 x1 S = some out) : Rn yX3_hear cX3_hear 3 none (k_rm 4) 0 0 D dy S (k_Pv dy out) 54 [(0, .ref (D.2.2 17)), (1, .int x1)] [] := by
    unfold f_X3_hear_54 at h
    refine r_iinc (q := 1) (v := x1 + (1 : Int32)) dX3_hear_54 rfl rfl (by decide) rfl ?_
    refine r_goto (t := 10) dX3_hear_57 (by decide) ?_
    refine r_sub [1, 0] rfl ?_
    exact hk10 _ _ _ h
set_option maxRecDepth 100000 in
set_option maxHeartbeats 4000000 in
theorem w_X3_hear_10 {D : k_D} {dy : Nat → Nat} : ∀ (n : Nat) (x1 : Int32) (S : St) (out : St), f_X3_hear_10 n x1 S = some out → Rn yX3_hear cX3_hear 3 none (k_rm 4) 0 0 D dy S (k_Pv dy out) 10 [(0, .ref (D.2.2 17)), (1, .int x1)] [] := by
  intro n
  induction n with
  | zero => intro x1 S out h; cases h
  | succ n ih =>
    intro x1 S out h
    rw [f_X3_hear_10] at h
    refine r_iload_n 1 dX3_hear_10 rfl rfl ?_
    refine r_aload_n 0 dX3_hear_11 rfl rfl ?_
    refine gf_17_1 q_370 dX3_hear_12 ?_
    refine gfN_2_5 q_212 dX3_hear_15 ?_
    refine r_icmp_ge (t := 60) dX3_hear_18 (by decide) (fun c => ?_) (fun c => ?_)
    · rw [if_pos c] at h
      refine r_sub [0] rfl ?_
      exact w_X3_hear_60 _ _ h
    · rw [if_neg c] at h
      refine r_iload_n 1 dX3_hear_21 rfl rfl ?_
      refine r_bipush (v := 16) dX3_hear_22 rfl ?_
      refine r_icmp_ge (t := 60) dX3_hear_24 (by decide) (fun c => ?_) (fun c => ?_)
      · rw [if_pos c] at h
        refine r_sub [0] rfl ?_
        exact w_X3_hear_60 _ _ h
      · rw [if_neg c] at h
        refine r_aload_n 0 dX3_hear_27 rfl rfl ?_
        refine gf_17_1 q_370 dX3_hear_28 ?_
        refine gfN_2_0 q_184 dX3_hear_31 ?_
        refine r_iload_n 1 dX3_hear_34 rfl rfl ?_
        obtain ⟨c1, h⟩ := g_ite h
        refine al_3 (k_b_in c1) dX3_hear_35 ?_
        refine r_istore_n dX3_hear_36 rfl (by decide) rfl ?_
        refine r_iload_n 0 dX3_hear_37 rfl rfl ?_
        obtain ⟨q38, hq38, h⟩ := g_bind h
        refine r_callSNi [.int (gA S 3 x1.toNatClampNeg)] [] q38 (ok_X11_isDancer hq38) q_694 q_668 q_669 q_141 hd_X11_isDancer ⟨Nat.le_of_ble_eq_true rfl, Nat.le_of_ble_eq_true rfl⟩ rfl rfl (Nat.le_of_ble_eq_true rfl) dX3_hear_38 ?_
        refine r_if_eq (t := 54) dX3_hear_41 (by decide) (fun c => ?_) (fun c => ?_)
        · rw [if_pos c] at h
          refine r_sub [1, 2] rfl ?_
          exact w_X3_hear_54 ih _ _ _ h
        · rw [if_neg c] at h
          refine r_aload_n 1 dX3_hear_44 rfl rfl ?_
          refine gf_17_5 q_383 dX3_hear_45 ?_
          refine r_iload_n 0 dX3_hear_48 rfl rfl ?_
          refine r_dup2 dX3_hear_49 rfl rfl ?_
          obtain ⟨c2, h⟩ := g_ite h
          refine al_21 (k_b_in c2) dX3_hear_50 ?_
          refine r_iconst (v := 1) dX3_hear_51 rfl ?_
          refine r_iadd dX3_hear_52 ?_
          obtain ⟨c3, h⟩ := g_ite h
          refine as_21 (k_b_in c3) dX3_hear_53 ?_
          generalize sA q38.2 21 (gA S 3 x1.toNatClampNeg).toNatClampNeg ((gA q38.2 21 (gA S 3 x1.toNatClampNeg).toNatClampNeg) + (1 : Int32)) = S4 at h ⊢
          replace h := g_let h
          refine r_sub [1, 2] rfl ?_
          exact w_X3_hear_54 ih _ _ _ h
set_option maxRecDepth 100000 in
set_option maxHeartbeats 4000000 in
theorem w_X3_hear_0 {D : k_D} {dy : Nat → Nat} (S : St) (out : St) (h : f_X3_hear S = some out) : Rn yX3_hear cX3_hear 3 none (k_rm 4) 0 0 D dy S (k_Pv dy out) 0 [(0, .ref (D.2.2 17))] [] := by
    unfold f_X3_hear at h
    refine r_aload_n 0 dX3_hear_0 rfl rfl ?_
    refine gf_17_5 q_383 dX3_hear_1 ?_
    refine r_iconst (v := 0) dX3_hear_4 rfl ?_
    obtain ⟨q5, hq5, h⟩ := g_bind h
    refine r_callSv [.ref (D.2.2 21), .int (0 : Int32)] [] q5 (ok_J7_fill_53178_a21 hq5) q_691 q_692 q_693 q_154 hd_J7_fill_53178 ⟨Nat.le_of_ble_eq_true rfl, Nat.le_of_ble_eq_true rfl⟩ rfl rfl (Nat.le_of_ble_eq_true rfl) dX3_hear_5 ?_
    refine r_iconst (v := 0) dX3_hear_8 rfl ?_
    refine r_istore_n dX3_hear_9 rfl (by decide) rfl ?_
    refine r_sub [1, 0] rfl ?_
    exact w_X3_hear_10 _ _ _ _ h
theorem ok_X3_hear {D : k_D} {dy : Nat → Nat} {S : St} {out : St} (h : f_X3_hear S = some out) : Sp yX3_hear cX3_hear 3 none (k_rm 4) D dy S [.ref (D.2.2 17)] (k_Pv dy out) := Sp.of (by decide +kernel) (Nat.le_of_ble_eq_true rfl) (w_X3_hear_0 S out h)
noncomputable def f_X0_share_24 (S : St) : Option (St) := some S
noncomputable def f_X0_share_103 (k54 : Int32 → Int32 → Int32 → St → Option (St)) (x1 : Int32) (x2 : Int32) (x5 : Int32) (S : St) : Option (St) := k54 x1 x2 (x5 + (-1 : Int32)) S
noncomputable def f_X0_share_54 : Nat → Int32 → Int32 → Int32 → St → Option (St)
  | 0, _, _, _, _ => none
  | n + 1, x1, x2, x5, S => if x5 < 0 then some S else if k_b x5 4321 = true then if (gA S 40 x5.toNatClampNeg) = (-1 : Int32) then f_X0_share_103 (f_X0_share_54 n) x1 x2 x5 S else if k_b (x5 + x2) 4321 = true then if (gA S 40 (x5 + x2).toNatClampNeg) = (-1 : Int32) then if k_b x5 4321 = true then if k_b (x5 + x2) 4321 = true then k_let (sA S 40 (x5 + x2).toNatClampNeg ((gA S 40 x5.toNatClampNeg) ||| ((1 : Int32) <<< (x1 &&& 31)))) fun S5 => f_X0_share_103 (f_X0_share_54 n) x1 x2 x5 S5 else none else none else f_X0_share_103 (f_X0_share_54 n) x1 x2 x5 S else none else none
noncomputable def f_X0_share_30 : Nat → Int32 → Int32 → Int32 → Int32 → Int32 → St → Option (St)
  | 0, _, _, _, _, _, _ => none
  | n + 1, x1, x2, x3, x4, x5, S => if x4 < x5 then f_X0_share_54 FU x1 x2 x3 S else if k_b x5 4321 = true then k_let (sA S 40 x5.toNatClampNeg (-1 : Int32)) fun S2 => f_X0_share_30 n x1 x2 x3 x4 (x5 + (1 : Int32)) S2 else none
noncomputable def f_X0_share (x1 : Int32) (x2 : Int32) (x3 : Int32) (S : St) : Option (St) := if x2 < (1 : Int32) then f_X0_share_24 S else if x3 < 0 then f_X0_share_24 S else if (x3 + x2) < (4321 : Int32) then f_X0_share_30 FU x1 x2 x3 (x3 + x2) (x3 + (1 : Int32)) S else f_X0_share_24 S
set_option maxRecDepth 100000 in
set_option maxHeartbeats 4000000 in
theorem w_X0_share_24 {D : k_D} {dy : Nat → Nat} (S : St) (out : St) (h : f_X0_share_24 S = some out) : Rn yX0_share cX0_share 6 none (k_rm 0) 0 0 D dy S (k_Pv dy out) 24 [] [] := by
    unfold f_X0_share_24 at h
    exact r_vret rfl dX0_share_24 ⟨rfl, rfl, Option.some.inj h⟩
set_option maxRecDepth 100000 in
set_option maxHeartbeats 4000000 in
theorem w_X0_share_103 {D : k_D} {dy : Nat → Nat} {k54 : Int32 → Int32 → Int32 → St → Option (St)} (hk54 : ∀ (x1 : Int32) (x2 : Int32) (x5 : Int32) (S : St) (out : St), k54 x1 x2 x5 S = some out → Rn yX0_share cX0_share 6 none (k_rm 0) 0 0 D dy S (k_Pv dy out) 54 [(0, .ref (D.2.2 39)), (1, .int x1), (2, .int x2), (5, .int x5)] []) (x1 : Int32) (x2 : Int32) (x5 : Int32) (S : St) (out : St) (h : f_X0_share_103 k54 x1 x2 x5 S = some out) : Rn yX0_share cX0_share 6 none (k_rm 0) 0 0 D dy S (k_Pv dy out) 103 [(0, .ref (D.2.2 39)), (1, .int x1), (2, .int x2), (5, .int x5)] [] := by
    unfold f_X0_share_103 at h
    refine r_iinc (q := 3) (v := x5 + (-1 : Int32)) dX0_share_103 rfl rfl (by decide) rfl ?_
    refine r_goto (t := 54) dX0_share_106 (by decide) ?_
    refine r_sub [1, 2, 3, 0] rfl ?_
    exact hk54 _ _ _ _ _ h
set_option maxRecDepth 100000 in
set_option maxHeartbeats 4000000 in
theorem w_X0_share_54 {D : k_D} {dy : Nat → Nat} : ∀ (n : Nat) (x1 : Int32) (x2 : Int32) (x5 : Int32) (S : St) (out : St), f_X0_share_54 n x1 x2 x5 S = some out → Rn yX0_share cX0_share 6 none (k_rm 0) 0 0 D dy S (k_Pv dy out) 54 [(0, .ref (D.2.2 39)), (1, .int x1), (2, .int x2), (5, .int x5)] [] := by
  intro n
  induction n with
  | zero => intro x1 x2 x5 S out h; cases h
  | succ n ih =>
    intro x1 x2 x5 S out h
    rw [f_X0_share_54] at h
    refine r_iload 3 dX0_share_54 rfl ?_
    refine r_if_lt (t := 109) dX0_share_56 (by decide) (fun c => ?_) (fun c => ?_)
    · rw [if_pos c] at h
      exact r_vret rfl dX0_share_109 ⟨rfl, rfl, Option.some.inj h⟩
    · rw [if_neg c] at h
      refine r_aload_n 0 dX0_share_59 rfl rfl ?_
      refine gf_39_3 q_522 dX0_share_60 ?_
      refine r_iload 3 dX0_share_63 rfl ?_
      obtain ⟨c1, h⟩ := g_ite h
      refine al_40 (k_b_in c1) dX0_share_65 ?_
      refine r_iconst (v := -1) dX0_share_66 rfl ?_
      refine r_icmp_eq (t := 103) dX0_share_67 (by decide) (fun c => ?_) (fun c => ?_)
      · rw [if_pos c] at h
        exact w_X0_share_103 ih _ _ _ _ _ h
      · rw [if_neg c] at h
        refine r_aload_n 0 dX0_share_70 rfl rfl ?_
        refine gf_39_3 q_522 dX0_share_71 ?_
        refine r_iload 3 dX0_share_74 rfl ?_
        refine r_iload_n 2 dX0_share_76 rfl rfl ?_
        refine r_iadd dX0_share_77 ?_
        obtain ⟨c2, h⟩ := g_ite h
        refine al_40 (k_b_in c2) dX0_share_78 ?_
        refine r_iconst (v := -1) dX0_share_79 rfl ?_
        refine r_icmp_ne (t := 103) dX0_share_80 (by decide) (fun c => ?_) (fun c => ?_)
        · rw [if_neg c] at h
          exact w_X0_share_103 ih _ _ _ _ _ h
        · rw [if_pos c] at h
          refine r_aload_n 0 dX0_share_83 rfl rfl ?_
          refine gf_39_3 q_522 dX0_share_84 ?_
          refine r_iload 3 dX0_share_87 rfl ?_
          refine r_iload_n 2 dX0_share_89 rfl rfl ?_
          refine r_iadd dX0_share_90 ?_
          refine r_aload_n 0 dX0_share_91 rfl rfl ?_
          refine gf_39_3 q_522 dX0_share_92 ?_
          refine r_iload 3 dX0_share_95 rfl ?_
          obtain ⟨c3, h⟩ := g_ite h
          refine al_40 (k_b_in c3) dX0_share_97 ?_
          refine r_iconst (v := 1) dX0_share_98 rfl ?_
          refine r_iload_n 1 dX0_share_99 rfl rfl ?_
          refine r_ishl dX0_share_100 ?_
          refine r_ior dX0_share_101 ?_
          obtain ⟨c4, h⟩ := g_ite h
          refine as_40 (k_b_in c4) dX0_share_102 ?_
          generalize sA S 40 (x5 + x2).toNatClampNeg ((gA S 40 x5.toNatClampNeg) ||| ((1 : Int32) <<< (x1 &&& 31))) = S5 at h ⊢
          replace h := g_let h
          exact w_X0_share_103 ih _ _ _ _ _ h
set_option maxRecDepth 100000 in
set_option maxHeartbeats 4000000 in
theorem w_X0_share_30 {D : k_D} {dy : Nat → Nat} : ∀ (n : Nat) (x1 : Int32) (x2 : Int32) (x3 : Int32) (x4 : Int32) (x5 : Int32) (S : St) (out : St), f_X0_share_30 n x1 x2 x3 x4 x5 S = some out → Rn yX0_share cX0_share 6 none (k_rm 0) 0 0 D dy S (k_Pv dy out) 30 [(0, .ref (D.2.2 39)), (1, .int x1), (2, .int x2), (3, .int x3), (4, .int x4), (5, .int x5)] [] := by
  intro n
  induction n with
  | zero => intro x1 x2 x3 x4 x5 S out h; cases h
  | succ n ih =>
    intro x1 x2 x3 x4 x5 S out h
    rw [f_X0_share_30] at h
    refine r_iload 5 dX0_share_30 rfl ?_
    refine r_iload 4 dX0_share_32 rfl ?_
    refine r_icmp_gt (t := 51) dX0_share_34 (by decide) (fun c => ?_) (fun c => ?_)
    · rw [if_pos c] at h
      refine r_iload_n 3 dX0_share_51 rfl rfl ?_
      refine r_istore dX0_share_52 (by decide) rfl ?_
      refine r_sub [1, 2, 3, 0] rfl ?_
      exact w_X0_share_54 _ _ _ _ _ _ h
    · rw [if_neg c] at h
      refine r_aload_n 0 dX0_share_37 rfl rfl ?_
      refine gf_39_3 q_522 dX0_share_38 ?_
      refine r_iload 5 dX0_share_41 rfl ?_
      refine r_iconst (v := -1) dX0_share_43 rfl ?_
      obtain ⟨c1, h⟩ := g_ite h
      refine as_40 (k_b_in c1) dX0_share_44 ?_
      generalize sA S 40 x5.toNatClampNeg (-1 : Int32) = S2 at h ⊢
      replace h := g_let h
      refine r_iinc (q := 5) (v := x5 + (1 : Int32)) dX0_share_45 rfl rfl (by decide) rfl ?_
      refine r_goto (t := 30) dX0_share_48 (by decide) ?_
      refine r_sub [1, 2, 3, 4, 5, 0] rfl ?_
      exact ih _ _ _ _ _ _ _ h
set_option maxRecDepth 100000 in
set_option maxHeartbeats 4000000 in
theorem w_X0_share_0 {D : k_D} {dy : Nat → Nat} (x1 : Int32) (x2 : Int32) (x3 : Int32) (S : St) (out : St) (h : f_X0_share x1 x2 x3 S = some out) : Rn yX0_share cX0_share 6 none (k_rm 0) 0 0 D dy S (k_Pv dy out) 0 [(0, .ref (D.2.2 39)), (1, .int x1), (2, .int x2), (3, .int x3)] [] := by
    unfold f_X0_share at h
    refine r_iload_n 3 dX0_share_0 rfl rfl ?_
    refine r_iload_n 2 dX0_share_1 rfl rfl ?_
    refine r_iadd dX0_share_2 ?_
    refine r_istore dX0_share_3 (by decide) rfl ?_
    refine r_iload_n 3 dX0_share_5 rfl rfl ?_
    refine r_iconst (v := 1) dX0_share_6 rfl ?_
    refine r_icmp_lt (t := 24) dX0_share_7 (by decide) (fun c => ?_) (fun c => ?_)
    · rw [if_pos c] at h
      refine r_sub [] rfl ?_
      exact w_X0_share_24 _ _ h
    · rw [if_neg c] at h
      refine r_iload_n 4 dX0_share_10 rfl rfl ?_
      refine r_if_lt (t := 24) dX0_share_11 (by decide) (fun c => ?_) (fun c => ?_)
      · rw [if_pos c] at h
        refine r_sub [] rfl ?_
        exact w_X0_share_24 _ _ h
      · rw [if_neg c] at h
        refine r_iload 0 dX0_share_14 rfl ?_
        refine r_aload_n 1 dX0_share_16 rfl rfl ?_
        refine gf_39_3 q_522 dX0_share_17 ?_
        refine ln_40 dX0_share_20 ?_
        refine r_icmp_lt (t := 25) dX0_share_21 (by decide) (fun c => ?_) (fun c => ?_)
        · rw [if_pos c] at h
          refine r_iload_n 4 dX0_share_25 rfl rfl ?_
          refine r_iconst (v := 1) dX0_share_26 rfl ?_
          refine r_iadd dX0_share_27 ?_
          refine r_istore dX0_share_28 (by decide) rfl ?_
          refine r_sub [2, 3, 4, 5, 1, 0] rfl ?_
          exact w_X0_share_30 _ _ _ _ _ _ _ _ h
        · rw [if_neg c] at h
          refine r_sub [] rfl ?_
          exact w_X0_share_24 _ _ h
theorem ok_X0_share {D : k_D} {dy : Nat → Nat} {x1 : Int32} {x2 : Int32} {x3 : Int32} {S : St} {out : St} (h : f_X0_share x1 x2 x3 S = some out) : Sp yX0_share cX0_share 6 none (k_rm 0) D dy S [.ref (D.2.2 39), .int x1, .int x2, .int x3] (k_Pv dy out) := Sp.of (by decide +kernel) (Nat.le_of_ble_eq_true rfl) (w_X0_share_0 _ _ _ S out h)
noncomputable def f_X0_choose_90 (S : St) : Option (St) := some S
noncomputable def f_X0_choose_84 (k12 : Int32 → Int32 → St → Option (St)) (x1 : Int32) (x2 : Int32) (S : St) : Option (St) := k12 x1 (x2 + (1 : Int32)) S
noncomputable def f_X0_choose_73 (k12 : Int32 → Int32 → St → Option (St)) (x1 : Int32) (x2 : Int32) (x3 : Int32) (x4 : Int32) (S : St) : Option (St) := k_let (sI S 25 x3) fun S1 => k_let (sI S1 26 x4) fun S2 => f_X0_choose_84 k12 x1 x2 S2
noncomputable def f_X0_choose_12 : Nat → Int32 → Int32 → St → Option (St)
  | 0, _, _, _ => none
  | n + 1, x1, x2, S => if x1 < x2 then f_X0_choose_90 S else if (4321 : Int32) ≤ x2 then f_X0_choose_90 S else if k_b x2 4321 = true then if (gA S 40 x2.toNatClampNeg) = (-1 : Int32) then f_X0_choose_84 (f_X0_choose_12 n) x1 x2 S else if (if x2 < (x1 - x2) then (x1 - x2) else x2) < (gI S 25) then f_X0_choose_73 (f_X0_choose_12 n) x1 x2 (if x2 < (x1 - x2) then (x1 - x2) else x2) (gA S 40 x2.toNatClampNeg) S else if (if x2 < (x1 - x2) then (x1 - x2) else x2) = (gI S 25) then if (gI S 26) ≤ (gA S 40 x2.toNatClampNeg) then f_X0_choose_84 (f_X0_choose_12 n) x1 x2 S else f_X0_choose_73 (f_X0_choose_12 n) x1 x2 (if x2 < (x1 - x2) then (x1 - x2) else x2) (gA S 40 x2.toNatClampNeg) S else f_X0_choose_84 (f_X0_choose_12 n) x1 x2 S else none
noncomputable def f_X0_choose (x1 : Int32) (S : St) : Option (St) := k_let (sI S 25 x1) fun S1 => k_let (sI S1 26 (0 : Int32)) fun S2 => f_X0_choose_12 FU x1 (0 : Int32) S2
set_option maxRecDepth 100000 in
set_option maxHeartbeats 4000000 in
theorem w_X0_choose_90 {D : k_D} {dy : Nat → Nat} (S : St) (out : St) (h : f_X0_choose_90 S = some out) : Rn yX0_choose cX0_choose 5 none (k_rm 1) 0 0 D dy S (k_Pv dy out) 90 [] [] := by
    unfold f_X0_choose_90 at h
    exact r_vret rfl dX0_choose_90 ⟨rfl, rfl, Option.some.inj h⟩
set_option maxRecDepth 100000 in
set_option maxHeartbeats 4000000 in
theorem w_X0_choose_84 {D : k_D} {dy : Nat → Nat} {k12 : Int32 → Int32 → St → Option (St)} (hk12 : ∀ (x1 : Int32) (x2 : Int32) (S : St) (out : St), k12 x1 x2 S = some out → Rn yX0_choose cX0_choose 5 none (k_rm 1) 0 0 D dy S (k_Pv dy out) 12 [(0, .ref (D.2.2 39)), (1, .int x1), (2, .int x2)] []) (x1 : Int32) (x2 : Int32) (S : St) (out : St) (h : f_X0_choose_84 k12 x1 x2 S = some out) : Rn yX0_choose cX0_choose 5 none (k_rm 1) 0 0 D dy S (k_Pv dy out) 84 [(0, .ref (D.2.2 39)), (1, .int x1), (2, .int x2)] [] := by
    unfold f_X0_choose_84 at h
    refine r_iinc (q := 2) (v := x2 + (1 : Int32)) dX0_choose_84 rfl rfl (by decide) rfl ?_
    refine r_goto (t := 12) dX0_choose_87 (by decide) ?_
    refine r_sub [1, 2, 0] rfl ?_
    exact hk12 _ _ _ _ h
set_option maxRecDepth 100000 in
set_option maxHeartbeats 4000000 in
theorem w_X0_choose_73 {D : k_D} {dy : Nat → Nat} {k12 : Int32 → Int32 → St → Option (St)} (hk12 : ∀ (x1 : Int32) (x2 : Int32) (S : St) (out : St), k12 x1 x2 S = some out → Rn yX0_choose cX0_choose 5 none (k_rm 1) 0 0 D dy S (k_Pv dy out) 12 [(0, .ref (D.2.2 39)), (1, .int x1), (2, .int x2)] []) (x1 : Int32) (x2 : Int32) (x3 : Int32) (x4 : Int32) (S : St) (out : St) (h : f_X0_choose_73 k12 x1 x2 x3 x4 S = some out) : Rn yX0_choose cX0_choose 5 none (k_rm 1) 0 0 D dy S (k_Pv dy out) 73 [(0, .ref (D.2.2 39)), (1, .int x1), (2, .int x2), (3, .int x3), (4, .int x4)] [] := by
    unfold f_X0_choose_73 at h
    refine r_aload_n 0 dX0_choose_73 rfl rfl ?_
    refine r_iload_n 3 dX0_choose_74 rfl rfl ?_
    refine pf_39_4 q_523 dX0_choose_75 ?_
    generalize sI S 25 x3 = S1 at h ⊢
    replace h := g_let h
    refine r_aload_n 0 dX0_choose_78 rfl rfl ?_
    refine r_iload 4 dX0_choose_79 rfl ?_
    refine pf_39_5 q_525 dX0_choose_81 ?_
    generalize sI S1 26 x4 = S2 at h ⊢
    replace h := g_let h
    refine r_sub [0, 1, 2] rfl ?_
    exact w_X0_choose_84 hk12 _ _ _ _ h
set_option maxRecDepth 100000 in
set_option maxHeartbeats 4000000 in
theorem w_X0_choose_12 {D : k_D} {dy : Nat → Nat} : ∀ (n : Nat) (x1 : Int32) (x2 : Int32) (S : St) (out : St), f_X0_choose_12 n x1 x2 S = some out → Rn yX0_choose cX0_choose 5 none (k_rm 1) 0 0 D dy S (k_Pv dy out) 12 [(0, .ref (D.2.2 39)), (1, .int x1), (2, .int x2)] [] := by
  intro n
  induction n with
  | zero => intro x1 x2 S out h; cases h
  | succ n ih =>
    intro x1 x2 S out h
    rw [f_X0_choose_12] at h
    refine r_iload_n 2 dX0_choose_12 rfl rfl ?_
    refine r_iload_n 1 dX0_choose_13 rfl rfl ?_
    refine r_icmp_gt (t := 90) dX0_choose_14 (by decide) (fun c => ?_) (fun c => ?_)
    · rw [if_pos c] at h
      refine r_sub [] rfl ?_
      exact w_X0_choose_90 _ _ h
    · rw [if_neg c] at h
      refine r_iload_n 2 dX0_choose_17 rfl rfl ?_
      refine r_aload_n 0 dX0_choose_18 rfl rfl ?_
      refine gf_39_3 q_522 dX0_choose_19 ?_
      refine ln_40 dX0_choose_22 ?_
      refine r_icmp_ge (t := 90) dX0_choose_23 (by decide) (fun c => ?_) (fun c => ?_)
      · rw [if_pos c] at h
        refine r_sub [] rfl ?_
        exact w_X0_choose_90 _ _ h
      · rw [if_neg c] at h
        refine r_iload_n 2 dX0_choose_26 rfl rfl ?_
        refine r_iload_n 1 dX0_choose_27 rfl rfl ?_
        refine r_iload_n 2 dX0_choose_28 rfl rfl ?_
        refine r_isub dX0_choose_29 ?_
        refine r_max q_1148 q_729 q_155 q_730 ⟨Nat.le_of_ble_eq_true rfl, Nat.le_of_ble_eq_true rfl⟩ dX0_choose_30 ?_
        refine r_istore_n dX0_choose_33 rfl (by decide) rfl ?_
        refine r_aload_n 1 dX0_choose_34 rfl rfl ?_
        refine gf_39_3 q_522 dX0_choose_35 ?_
        refine r_iload_n 3 dX0_choose_38 rfl rfl ?_
        obtain ⟨c1, h⟩ := g_ite h
        refine al_40 (k_b_in c1) dX0_choose_39 ?_
        refine r_istore dX0_choose_40 (by decide) rfl ?_
        refine r_iload 0 dX0_choose_42 rfl ?_
        refine r_iconst (v := -1) dX0_choose_44 rfl ?_
        refine r_icmp_eq (t := 84) dX0_choose_45 (by decide) (fun c => ?_) (fun c => ?_)
        · rw [if_pos c] at h
          refine r_sub [2, 3, 4] rfl ?_
          exact w_X0_choose_84 ih _ _ _ _ h
        · rw [if_neg c] at h
          refine r_iload_n 1 dX0_choose_48 rfl rfl ?_
          refine r_aload_n 2 dX0_choose_49 rfl rfl ?_
          refine gf_39_4 q_523 dX0_choose_50 ?_
          refine r_icmp_lt (t := 73) dX0_choose_53 (by decide) (fun c => ?_) (fun c => ?_)
          · rw [if_pos c] at h
            refine r_sub [2, 3, 4, 1, 0] rfl ?_
            exact w_X0_choose_73 ih _ _ _ _ _ _ h
          · rw [if_neg c] at h
            refine r_iload_n 1 dX0_choose_56 rfl rfl ?_
            refine r_aload_n 2 dX0_choose_57 rfl rfl ?_
            refine gf_39_4 q_523 dX0_choose_58 ?_
            refine r_icmp_ne (t := 84) dX0_choose_61 (by decide) (fun c => ?_) (fun c => ?_)
            · rw [if_neg c] at h
              refine r_sub [2, 3, 4] rfl ?_
              exact w_X0_choose_84 ih _ _ _ _ h
            · rw [if_pos c] at h
              refine r_iload 0 dX0_choose_64 rfl ?_
              refine r_aload_n 2 dX0_choose_66 rfl rfl ?_
              refine gf_39_5 q_525 dX0_choose_67 ?_
              refine r_icmp_ge (t := 84) dX0_choose_70 (by decide) (fun c => ?_) (fun c => ?_)
              · rw [if_pos c] at h
                refine r_sub [2, 3, 4] rfl ?_
                exact w_X0_choose_84 ih _ _ _ _ h
              · rw [if_neg c] at h
                refine r_sub [2, 3, 4, 1, 0] rfl ?_
                exact w_X0_choose_73 ih _ _ _ _ _ _ h
set_option maxRecDepth 100000 in
set_option maxHeartbeats 4000000 in
theorem w_X0_choose_0 {D : k_D} {dy : Nat → Nat} (x1 : Int32) (S : St) (out : St) (h : f_X0_choose x1 S = some out) : Rn yX0_choose cX0_choose 5 none (k_rm 1) 0 0 D dy S (k_Pv dy out) 0 [(0, .ref (D.2.2 39)), (1, .int x1)] [] := by
    unfold f_X0_choose at h
    refine r_aload_n 0 dX0_choose_0 rfl rfl ?_
    refine r_iload_n 1 dX0_choose_1 rfl rfl ?_
    refine pf_39_4 q_523 dX0_choose_2 ?_
    generalize sI S 25 x1 = S1 at h ⊢
    replace h := g_let h
    refine r_aload_n 0 dX0_choose_5 rfl rfl ?_
    refine r_iconst (v := 0) dX0_choose_6 rfl ?_
    refine pf_39_5 q_525 dX0_choose_7 ?_
    generalize sI S1 26 (0 : Int32) = S2 at h ⊢
    replace h := g_let h
    refine r_iconst (v := 0) dX0_choose_10 rfl ?_
    refine r_istore_n dX0_choose_11 rfl (by decide) rfl ?_
    refine r_sub [1, 2, 0] rfl ?_
    exact w_X0_choose_12 _ _ _ _ _ h
theorem ok_X0_choose {D : k_D} {dy : Nat → Nat} {x1 : Int32} {S : St} {out : St} (h : f_X0_choose x1 S = some out) : Sp yX0_choose cX0_choose 5 none (k_rm 1) D dy S [.ref (D.2.2 39), .int x1] (k_Pv dy out) := Sp.of (by decide +kernel) (Nat.le_of_ble_eq_true rfl) (w_X0_choose_0 _ S out h)
