noncomputable def f_X6_write_88 (x3 : Int32) (S : St) : Option (Int32 × St) := (f_X6_addUp S).bind fun q89 => k_let (sI q89 28 (1 : Int32)) fun S1 => some (x3, S1)
noncomputable def f_X6_write_82 (k38 : Int32 → Int32 → Int32 → St → Option (Int32 × St)) (x2 : Int32) (x3 : Int32) (x4 : Int32) (S : St) : Option (Int32 × St) := k38 x2 x3 (x4 + (1 : Int32)) S
noncomputable def f_X6_write_38 : Nat → Int32 → Int32 → Int32 → St → Option (Int32 × St)
  | 0, _, _, _, _ => none
  | n + 1, x2, x3, x4, S => if (x2 * (6 : Int32)) ≤ x4 then f_X6_write_88 x3 S else (f_X6_draw (8 : Int32) S).bind fun q50 => (f_X6_draw (gI q50.2 0) q50.2).bind fun q63 => (f_X6_takesOver q50.1 q63.1 q63.2).bind fun q73 => if q73.1 = 0 then f_X6_write_82 (f_X6_write_38 n) x2 x3 x4 q73.2 else f_X6_write_82 (f_X6_write_38 n) x2 (x3 + (1 : Int32)) x4 q73.2
noncomputable def f_X6_write (x1 : Int32) (x2 : Int32) (S : St) : Option (Int32 × St) := k_let (sF S 45 (va_cpy (gA S 3) (gA S 45) 0 0 16)) fun S1 => k_let (sI S1 29 x1) fun S2 => if (gI S2 0) ≤ 0 then f_X6_write_88 (0 : Int32) S2 else f_X6_write_38 FU x2 (0 : Int32) (0 : Int32) S2
set_option maxRecDepth 100000 in
set_option maxHeartbeats 4000000 in
theorem w_X6_write_88 {D : k_D} {dy : Nat → Nat} (x3 : Int32) (S : St) (out : Int32 × St) (h : f_X6_write_88 x3 S = some out) : Rn yX6_write cX6_write 7 (some .int) (k_rm 2) 0 0 D dy S (k_Pi dy out) 88 [(0, .ref (D.2.2 44)), (3, .int x3)] [] := by
    unfold f_X6_write_88 at h
    refine r_aload_n 0 dX6_write_88 rfl rfl ?_
    obtain ⟨q89, hq89, h⟩ := g_bind h
    refine r_callVv [] [] q89 (ok_X6_addUp hq89) q_1250 q_1252 q_84 q_1253 q_152 hd_X6_addUp (ce_44 D dy _) kc6.1 rfl ⟨Nat.le_of_ble_eq_true rfl, Nat.le_of_ble_eq_true rfl⟩ rfl rfl (Nat.le_of_ble_eq_true rfl) dX6_write_89 ?_
    refine r_aload_n 0 dX6_write_92 rfl rfl ?_
    refine r_iconst (v := 1) dX6_write_93 rfl ?_
    refine pf_44_5 (Or.inr rfl) q_572 dX6_write_94 ?_
    generalize sI q89 28 (1 : Int32) = S1 at h ⊢
    replace h := g_let h
    refine r_iload_n 1 dX6_write_97 rfl rfl ?_
    cases h
    exact r_iret rfl dX6_write_98 ⟨rfl, rfl, rfl⟩
set_option maxRecDepth 100000 in
set_option maxHeartbeats 4000000 in
theorem w_X6_write_82 {D : k_D} {dy : Nat → Nat} {k38 : Int32 → Int32 → Int32 → St → Option (Int32 × St)} (hk38 : ∀ (x2 : Int32) (x3 : Int32) (x4 : Int32) (S : St) (out : Int32 × St), k38 x2 x3 x4 S = some out → Rn yX6_write cX6_write 7 (some .int) (k_rm 2) 0 0 D dy S (k_Pi dy out) 38 [(0, .ref (D.2.2 44)), (2, .int x2), (3, .int x3), (4, .int x4)] []) (x2 : Int32) (x3 : Int32) (x4 : Int32) (S : St) (out : Int32 × St) (h : f_X6_write_82 k38 x2 x3 x4 S = some out) : Rn yX6_write cX6_write 7 (some .int) (k_rm 2) 0 0 D dy S (k_Pi dy out) 82 [(0, .ref (D.2.2 44)), (2, .int x2), (3, .int x3), (4, .int x4)] [] := by
    unfold f_X6_write_82 at h
    refine r_iinc (q := 3) (v := x4 + (1 : Int32)) dX6_write_82 rfl rfl (by decide) rfl ?_
    refine r_goto (t := 38) dX6_write_85 (by decide) ?_
    refine r_sub [1, 2, 3, 0] rfl ?_
    exact hk38 _ _ _ _ _ h
set_option maxRecDepth 100000 in
set_option maxHeartbeats 4000000 in
theorem w_X6_write_38 {D : k_D} {dy : Nat → Nat} : ∀ (n : Nat) (x2 : Int32) (x3 : Int32) (x4 : Int32) (S : St) (out : Int32 × St), f_X6_write_38 n x2 x3 x4 S = some out → Rn yX6_write cX6_write 7 (some .int) (k_rm 2) 0 0 D dy S (k_Pi dy out) 38 [(0, .ref (D.2.2 44)), (2, .int x2), (3, .int x3), (4, .int x4)] [] := by
  intro n
  induction n with
  | zero => intro x2 x3 x4 S out h; cases h
  | succ n ih =>
    intro x2 x3 x4 S out h
    rw [f_X6_write_38] at h
    refine r_iload 3 dX6_write_38 rfl ?_
    refine r_iload_n 1 dX6_write_40 rfl rfl ?_
    refine r_bipush (v := 6) dX6_write_41 rfl ?_
    refine r_imul dX6_write_43 ?_
    refine r_icmp_ge (t := 88) dX6_write_44 (by decide) (fun c => ?_) (fun c => ?_)
    · rw [if_pos c] at h
      refine r_sub [0, 2] rfl ?_
      exact w_X6_write_88 _ _ _ h
    · rw [if_neg c] at h
      refine r_aload_n 0 dX6_write_47 rfl rfl ?_
      refine r_bipush (v := 8) dX6_write_48 rfl ?_
      obtain ⟨q50, hq50, h⟩ := g_bind h
      refine r_callVi [.int (8 : Int32)] [] q50 (ok_X6_draw hq50) q_1241 q_1243 q_82 q_1244 q_152 hd_X6_draw (ce_44 D dy _) kc6.1 rfl ⟨Nat.le_of_ble_eq_true rfl, Nat.le_of_ble_eq_true rfl⟩ rfl rfl (Nat.le_of_ble_eq_true rfl) dX6_write_50 ?_
      refine r_istore dX6_write_53 (by decide) rfl ?_
      refine r_aload_n 1 dX6_write_55 rfl rfl ?_
      refine r_aload_n 1 dX6_write_56 rfl rfl ?_
      refine gf_44_0 q_565 dX6_write_57 ?_
      refine gfN_0_1 q_239 dX6_write_60 ?_
      obtain ⟨q63, hq63, h⟩ := g_bind h
      refine r_callVi [.int (gI q50.2 0)] [] q63 (ok_X6_draw hq63) q_1241 q_1243 q_82 q_1244 q_152 hd_X6_draw (ce_44 D dy _) kc6.1 rfl ⟨Nat.le_of_ble_eq_true rfl, Nat.le_of_ble_eq_true rfl⟩ rfl rfl (Nat.le_of_ble_eq_true rfl) dX6_write_63 ?_
      refine r_istore dX6_write_66 (by decide) rfl ?_
      refine r_aload_n 2 dX6_write_68 rfl rfl ?_
      refine r_iload 1 dX6_write_69 rfl ?_
      refine r_iload 0 dX6_write_71 rfl ?_
      obtain ⟨q73, hq73, h⟩ := g_bind h
      refine r_callVi [.int q50.1, .int q63.1] [] q73 (ok_X6_takesOver hq73) q_1246 q_1248 q_83 q_1249 q_152 hd_X6_takesOver (ce_44 D dy _) kc6.1 rfl ⟨Nat.le_of_ble_eq_true rfl, Nat.le_of_ble_eq_true rfl⟩ rfl rfl (Nat.le_of_ble_eq_true rfl) dX6_write_73 ?_
      refine r_if_eq (t := 82) dX6_write_76 (by decide) (fun c => ?_) (fun c => ?_)
      · rw [if_pos c] at h
        refine r_sub [2, 3, 4, 5] rfl ?_
        exact w_X6_write_82 ih _ _ _ _ _ h
      · rw [if_neg c] at h
        refine r_iinc (q := 4) (v := x3 + (1 : Int32)) dX6_write_79 rfl rfl (by decide) rfl ?_
        refine r_sub [3, 4, 0, 5] rfl ?_
        exact w_X6_write_82 ih _ _ _ _ _ h
set_option maxRecDepth 100000 in
set_option maxHeartbeats 4000000 in
theorem w_X6_write_0 {D : k_D} {dy : Nat → Nat} (x1 : Int32) (x2 : Int32) (S : St) (out : Int32 × St) (h : f_X6_write x1 x2 S = some out) : Rn yX6_write cX6_write 7 (some .int) (k_rm 2) 0 0 D dy S (k_Pi dy out) 0 [(0, .ref (D.2.2 44)), (1, .int x1), (2, .int x2)] [] := by
    unfold f_X6_write at h
    refine r_aload_n 0 dX6_write_0 rfl rfl ?_
    refine gf_44_1 q_566 dX6_write_1 ?_
    refine gfN_2_0 q_183 dX6_write_4 ?_
    refine r_iconst (v := 0) dX6_write_7 rfl ?_
    refine r_aload_n 0 dX6_write_8 rfl rfl ?_
    refine gf_44_2 q_567 dX6_write_9 ?_
    refine r_iconst (v := 0) dX6_write_12 rfl ?_
    refine r_bipush (v := 16) dX6_write_13 rfl ?_
    refine r_copy (S' := sF S 45 (va_cpy (gA S 3) (gA S 45) 0 0 16)) 3 45 (ce_3 D dy _) (ce_45 D dy _) rfl rfl (k_sF_45 D dy _ _).1 (k_sF_45 D dy _ _).2 (by decide) (by decide) (by decide) (by decide) (by decide) q_1240 q_957 q_956 q_160 ⟨Nat.le_of_ble_eq_true rfl, by decide +kernel⟩ dX6_write_15 ?_
    generalize sF S 45 (va_cpy (gA S 3) (gA S 45) 0 0 16) = S1 at h ⊢
    replace h := g_let h
    refine r_aload_n 0 dX6_write_18 rfl rfl ?_
    refine r_iload_n 1 dX6_write_19 rfl rfl ?_
    refine pf_44_6 q_574 dX6_write_20 ?_
    generalize sI S1 29 x1 = S2 at h ⊢
    replace h := g_let h
    refine r_iconst (v := 0) dX6_write_23 rfl ?_
    refine r_istore_n dX6_write_24 rfl (by decide) rfl ?_
    refine r_aload_n 1 dX6_write_25 rfl rfl ?_
    refine gf_44_0 q_565 dX6_write_26 ?_
    refine gfN_0_1 q_239 dX6_write_29 ?_
    refine r_if_le (t := 88) dX6_write_32 (by decide) (fun c => ?_) (fun c => ?_)
    · rw [if_pos c] at h
      refine r_sub [1, 0] rfl ?_
      exact w_X6_write_88 _ _ _ h
    · rw [if_neg c] at h
      refine r_iconst (v := 0) dX6_write_35 rfl ?_
      refine r_istore dX6_write_36 (by decide) rfl ?_
      refine r_sub [2, 4, 1, 0] rfl ?_
      exact w_X6_write_38 _ _ _ _ _ _ h
theorem ok_X6_write {D : k_D} {dy : Nat → Nat} {x1 : Int32} {x2 : Int32} {S : St} {out : Int32 × St} (h : f_X6_write x1 x2 S = some out) : Sp yX6_write cX6_write 7 (some .int) (k_rm 2) D dy S [.ref (D.2.2 44), .int x1, .int x2] (k_Pi dy out) := Sp.of (by decide +kernel) (Nat.le_of_ble_eq_true rfl) (w_X6_write_0 _ _ S out h)
noncomputable def f_X7_sees_24 (S : St) : Option (Int32 × St) := some ((0 : Int32), S)
noncomputable def f_X7_sees_28 : Nat → Nat → Int32 → St → Option (Int32 × St)
  | 0, _, _, _ => none
  | n + 1, x1, x2, S => (f_J0_length_8abf5 x1 S).bind fun q30 => if q30.1 ≤ x2 then some ((1 : Int32), q30.2) else (f_X9_byteAt ((gI q30.2 15) + x2) q30.2).bind fun q46 => (f_J0_charAt_5068e x1 x2 q46.2).bind fun q51 => if q46.1 = q51.1 then f_X7_sees_28 n x1 (x2 + (1 : Int32)) q51.2 else some ((0 : Int32), q51.2)
noncomputable def f_X7_sees (x1 : Nat) (S : St) : Option (Int32 × St) := if (gI S 13) = (1 : Int32) then (f_J0_length_8abf5 x1 S).bind fun q18 => if ((gI S 16) - (gI S 15)) = q18.1 then f_X7_sees_28 FU x1 (0 : Int32) q18.2 else f_X7_sees_24 q18.2 else f_X7_sees_24 S
set_option maxRecDepth 100000 in
set_option maxHeartbeats 4000000 in
theorem w_X7_sees_24 {D : k_D} {dy : Nat → Nat} (S : St) (out : Int32 × St) (h : f_X7_sees_24 S = some out) : Rn yX7_sees cX7_sees 3 (some .boolean) (k_rm 4) 0 0 D dy S (k_Pi dy out) 24 [] [] := by
    unfold f_X7_sees_24 at h
    refine r_iconst (v := 0) dX7_sees_24 rfl ?_
    cases h
    exact r_zret rfl rfl dX7_sees_25 ⟨rfl, rfl, rfl⟩
set_option maxRecDepth 100000 in
set_option maxHeartbeats 4000000 in
theorem w_X7_sees_28 {D : k_D} {dy : Nat → Nat} : ∀ (n : Nat) (x1 : Nat) (x2 : Int32) (S : St) (out : Int32 × St), f_X7_sees_28 n x1 x2 S = some out → Rn yX7_sees cX7_sees 3 (some .boolean) (k_rm 4) 0 0 D dy S (k_Pi dy out) 28 [(0, .ref (D.2.2 23)), (1, .ref (D.2.2 (1000 + x1))), (2, .int x2)] [] := by
  intro n
  induction n with
  | zero => intro x1 x2 S out h; cases h
  | succ n ih =>
    intro x1 x2 S out h
    rw [f_X7_sees_28] at h
    refine r_iload_n 2 dX7_sees_28 rfl rfl ?_
    refine r_aload_n 1 dX7_sees_29 rfl rfl ?_
    obtain ⟨q30, hq30, h⟩ := g_bind h
    refine r_callS0 (j := x1) [] [.int x2] q30 (g_ite hq30).1 (ok_J0_length_8abf5 hq30) q_835 q_836 q_837 q_838 q_156 hd_J0_length_8abf5 ⟨Nat.le_of_ble_eq_true rfl, Nat.le_of_ble_eq_true rfl⟩ rfl rfl (Nat.le_of_ble_eq_true rfl) dX7_sees_30 ?_
    refine r_icmp_ge (t := 65) dX7_sees_33 (by decide) (fun c => ?_) (fun c => ?_)
    · rw [if_pos c] at h
      refine r_iconst (v := 1) dX7_sees_65 rfl ?_
      cases h
      exact r_zret rfl rfl dX7_sees_66 ⟨rfl, rfl, rfl⟩
    · rw [if_neg c] at h
      refine r_aload_n 0 dX7_sees_36 rfl rfl ?_
      refine gf_23_0 q_334 dX7_sees_37 ?_
      refine r_aload_n 0 dX7_sees_40 rfl rfl ?_
      refine gf_23_7 q_341 dX7_sees_41 ?_
      refine r_iload_n 2 dX7_sees_44 rfl rfl ?_
      refine r_iadd dX7_sees_45 ?_
      obtain ⟨q46, hq46, h⟩ := g_bind h
      refine r_callVNi [.int ((gI q30.2 15) + x2)] [] q46 (ok_X9_byteAt hq46) q_812 q_794 q_23 q_795 q_144 hd_X9_byteAt (ce_15 D dy _) kc9.1 rfl ⟨Nat.le_of_ble_eq_true rfl, Nat.le_of_ble_eq_true rfl⟩ rfl rfl (Nat.le_of_ble_eq_true rfl) dX7_sees_46 ?_
      refine r_aload_n 1 dX7_sees_49 rfl rfl ?_
      refine r_iload_n 2 dX7_sees_50 rfl rfl ?_
      obtain ⟨q51, hq51, h⟩ := g_bind h
      refine r_callS0 (j := x1) [.int x2] [.int q46.1] q51 (g_ite hq51).1 (ok_J0_charAt_5068e hq51) q_845 q_846 q_847 q_848 q_156 hd_J0_charAt_5068e ⟨Nat.le_of_ble_eq_true rfl, Nat.le_of_ble_eq_true rfl⟩ rfl rfl (Nat.le_of_ble_eq_true rfl) dX7_sees_51 ?_
      refine r_icmp_eq (t := 59) dX7_sees_54 (by decide) (fun c => ?_) (fun c => ?_)
      · rw [if_pos c] at h
        refine r_iinc (q := 2) (v := x2 + (1 : Int32)) dX7_sees_59 rfl rfl (by decide) rfl ?_
        refine r_goto (t := 28) dX7_sees_62 (by decide) ?_
        refine r_sub [1, 2, 0] rfl ?_
        exact ih _ _ _ _ h
      · rw [if_neg c] at h
        refine r_iconst (v := 0) dX7_sees_57 rfl ?_
        cases h
        exact r_zret rfl rfl dX7_sees_58 ⟨rfl, rfl, rfl⟩
set_option maxRecDepth 100000 in
set_option maxHeartbeats 4000000 in
theorem w_X7_sees_0 {D : k_D} {dy : Nat → Nat} (x1 : Nat) (S : St) (out : Int32 × St) (h : f_X7_sees x1 S = some out) : Rn yX7_sees cX7_sees 3 (some .boolean) (k_rm 4) 0 0 D dy S (k_Pi dy out) 0 [(0, .ref (D.2.2 23)), (1, .ref (D.2.2 (1000 + x1)))] [] := by
    unfold f_X7_sees at h
    refine r_aload_n 0 dX7_sees_0 rfl rfl ?_
    refine gf_23_5 q_339 dX7_sees_1 ?_
    refine r_iconst (v := 1) dX7_sees_4 rfl ?_
    refine r_icmp_ne (t := 24) dX7_sees_5 (by decide) (fun c => ?_) (fun c => ?_)
    · rw [if_neg c] at h
      refine r_sub [] rfl ?_
      exact w_X7_sees_24 _ _ h
    · rw [if_pos c] at h
      refine r_aload_n 0 dX7_sees_8 rfl rfl ?_
      refine gf_23_8 q_343 dX7_sees_9 ?_
      refine r_aload_n 0 dX7_sees_12 rfl rfl ?_
      refine gf_23_7 q_341 dX7_sees_13 ?_
      refine r_isub dX7_sees_16 ?_
      refine r_aload_n 1 dX7_sees_17 rfl rfl ?_
      obtain ⟨q18, hq18, h⟩ := g_bind h
      refine r_callS0 (j := x1) [] [.int ((gI S 16) - (gI S 15))] q18 (g_ite hq18).1 (ok_J0_length_8abf5 hq18) q_835 q_836 q_837 q_838 q_156 hd_J0_length_8abf5 ⟨Nat.le_of_ble_eq_true rfl, Nat.le_of_ble_eq_true rfl⟩ rfl rfl (Nat.le_of_ble_eq_true rfl) dX7_sees_18 ?_
      refine r_icmp_eq (t := 26) dX7_sees_21 (by decide) (fun c => ?_) (fun c => ?_)
      · rw [if_pos c] at h
        refine r_iconst (v := 0) dX7_sees_26 rfl ?_
        refine r_istore_n dX7_sees_27 rfl (by decide) rfl ?_
        refine r_sub [1, 2, 0] rfl ?_
        exact w_X7_sees_28 _ _ _ _ _ h
      · rw [if_neg c] at h
        refine r_sub [] rfl ?_
        exact w_X7_sees_24 _ _ h
theorem ok_X7_sees {D : k_D} {dy : Nat → Nat} {x1 : Nat} {S : St} {out : Int32 × St} (h : f_X7_sees x1 S = some out) : Sp yX7_sees cX7_sees 3 (some .boolean) (k_rm 4) D dy S [.ref (D.2.2 23), .ref (D.2.2 (1000 + x1))] (k_Pi dy out) := Sp.of (by decide +kernel) (Nat.le_of_ble_eq_true rfl) (w_X7_sees_0 _ S out h)
noncomputable def f_X7_clauseKind_36 (s0 : Int32) (S : St) : Option (Int32 × St) := some (s0, S)
noncomputable def f_X7_clauseKind (S : St) : Option (Int32 × St) := (f_X7_sees (0 : Nat) S).bind fun q3 => if q3.1 = 0 then (f_X7_sees (1 : Nat) q3.2).bind fun q14 => if q14.1 = 0 then (f_X7_sees (2 : Nat) q14.2).bind fun q25 => if q25.1 = 0 then f_X7_clauseKind_36 (-1 : Int32) q25.2 else f_X7_clauseKind_36 (3 : Int32) q25.2 else some ((2 : Int32), q14.2) else some ((1 : Int32), q3.2)
set_option maxRecDepth 100000 in
set_option maxHeartbeats 4000000 in
theorem w_X7_clauseKind_36 {D : k_D} {dy : Nat → Nat} (s0 : Int32) (S : St) (out : Int32 × St) (h : f_X7_clauseKind_36 s0 S = some out) : Rn yX7_clauseKind cX7_clauseKind 1 (some .int) (k_rm 5) 0 0 D dy S (k_Pi dy out) 36 [] [.int s0] := by
    unfold f_X7_clauseKind_36 at h
    cases h
    exact r_iret rfl dX7_clauseKind_36 ⟨rfl, rfl, rfl⟩
set_option maxRecDepth 100000 in
set_option maxHeartbeats 4000000 in
theorem w_X7_clauseKind_0 {D : k_D} {dy : Nat → Nat} (S : St) (out : Int32 × St) (h : f_X7_clauseKind S = some out) : Rn yX7_clauseKind cX7_clauseKind 1 (some .int) (k_rm 5) 0 0 D dy S (k_Pi dy out) 0 [(0, .ref (D.2.2 23))] [] := by
    unfold f_X7_clauseKind at h
    refine r_aload_n 0 dX7_clauseKind_0 rfl rfl ?_
    refine r_ldcS (i := 0) (by decide) rfl rfl dX7_clauseKind_1 ?_
    obtain ⟨q3, hq3, h⟩ := g_bind h
    refine r_callVi [.ref (D.2.2 (1000 + (0 : Nat)))] [] q3 (ok_X7_sees hq3) q_831 q_833 q_30 q_834 q_145 hd_X7_sees (ce_23 D dy _) kc7.1 rfl ⟨Nat.le_of_ble_eq_true rfl, Nat.le_of_ble_eq_true rfl⟩ rfl rfl (Nat.le_of_ble_eq_true rfl) dX7_clauseKind_3 ?_
    refine r_if_eq (t := 11) dX7_clauseKind_6 (by decide) (fun c => ?_) (fun c => ?_)
    · rw [if_pos c] at h
      refine r_aload_n 0 dX7_clauseKind_11 rfl rfl ?_
      refine r_ldcS (i := 1) (by decide) rfl rfl dX7_clauseKind_12 ?_
      obtain ⟨q14, hq14, h⟩ := g_bind h
      refine r_callVi [.ref (D.2.2 (1000 + (1 : Nat)))] [] q14 (ok_X7_sees hq14) q_831 q_833 q_30 q_834 q_145 hd_X7_sees (ce_23 D dy _) kc7.1 rfl ⟨Nat.le_of_ble_eq_true rfl, Nat.le_of_ble_eq_true rfl⟩ rfl rfl (Nat.le_of_ble_eq_true rfl) dX7_clauseKind_14 ?_
      refine r_if_eq (t := 22) dX7_clauseKind_17 (by decide) (fun c => ?_) (fun c => ?_)
      · rw [if_pos c] at h
        refine r_aload_n 0 dX7_clauseKind_22 rfl rfl ?_
        refine r_ldcS (i := 2) (by decide) rfl rfl dX7_clauseKind_23 ?_
        obtain ⟨q25, hq25, h⟩ := g_bind h
        refine r_callVi [.ref (D.2.2 (1000 + (2 : Nat)))] [] q25 (ok_X7_sees hq25) q_831 q_833 q_30 q_834 q_145 hd_X7_sees (ce_23 D dy _) kc7.1 rfl ⟨Nat.le_of_ble_eq_true rfl, Nat.le_of_ble_eq_true rfl⟩ rfl rfl (Nat.le_of_ble_eq_true rfl) dX7_clauseKind_25 ?_
        refine r_if_eq (t := 35) dX7_clauseKind_28 (by decide) (fun c => ?_) (fun c => ?_)
        · rw [if_pos c] at h
          refine r_iconst (v := -1) dX7_clauseKind_35 rfl ?_
          refine r_sub [] rfl ?_
          exact w_X7_clauseKind_36 _ _ _ h
        · rw [if_neg c] at h
          refine r_iconst (v := 3) dX7_clauseKind_31 rfl ?_
          refine r_goto (t := 36) dX7_clauseKind_32 (by decide) ?_
          refine r_sub [] rfl ?_
          exact w_X7_clauseKind_36 _ _ _ h
      · rw [if_neg c] at h
        refine r_iconst (v := 2) dX7_clauseKind_20 rfl ?_
        cases h
        exact r_iret rfl dX7_clauseKind_21 ⟨rfl, rfl, rfl⟩
    · rw [if_neg c] at h
      refine r_iconst (v := 1) dX7_clauseKind_9 rfl ?_
      cases h
      exact r_iret rfl dX7_clauseKind_10 ⟨rfl, rfl, rfl⟩
theorem ok_X7_clauseKind {D : k_D} {dy : Nat → Nat} {S : St} {out : Int32 × St} (h : f_X7_clauseKind S = some out) : Sp yX7_clauseKind cX7_clauseKind 1 (some .int) (k_rm 5) D dy S [.ref (D.2.2 23)] (k_Pi dy out) := Sp.of (by decide +kernel) (Nat.le_of_ble_eq_true rfl) (w_X7_clauseKind_0 S out h)
noncomputable def f_X7_wordHere_81 (s0 : Int32) (S : St) : Option (Int32 × St) := some (s0, S)
noncomputable def f_X7_wordHere (S : St) : Option (Int32 × St) := (f_X7_sees (6 : Nat) S).bind fun q3 => if q3.1 = 0 then (f_X7_sees (7 : Nat) q3.2).bind fun q14 => if q14.1 = 0 then (f_X7_sees (8 : Nat) q14.2).bind fun q25 => if q25.1 = 0 then (f_X7_sees (9 : Nat) q25.2).bind fun q36 => if q36.1 = 0 then (f_X7_sees (10 : Nat) q36.2).bind fun q47 => if q47.1 = 0 then (f_X7_sees (11 : Nat) q47.2).bind fun q58 => if q58.1 = 0 then (f_X7_sees (12 : Nat) q58.2).bind fun q69 => if q69.1 = 0 then f_X7_wordHere_81 (-1 : Int32) q69.2 else f_X7_wordHere_81 (6 : Int32) q69.2 else some ((5 : Int32), q58.2) else some ((4 : Int32), q47.2) else some ((3 : Int32), q36.2) else some ((2 : Int32), q25.2) else some ((1 : Int32), q14.2) else some ((0 : Int32), q3.2)
set_option maxRecDepth 100000 in
set_option maxHeartbeats 4000000 in
theorem w_X7_wordHere_81 {D : k_D} {dy : Nat → Nat} (s0 : Int32) (S : St) (out : Int32 × St) (h : f_X7_wordHere_81 s0 S = some out) : Rn yX7_wordHere cX7_wordHere 1 (some .int) (k_rm 5) 0 0 D dy S (k_Pi dy out) 81 [] [.int s0] := by
    unfold f_X7_wordHere_81 at h
    cases h
    exact r_iret rfl dX7_wordHere_81 ⟨rfl, rfl, rfl⟩
set_option maxRecDepth 100000 in
set_option maxHeartbeats 4000000 in
theorem w_X7_wordHere_0 {D : k_D} {dy : Nat → Nat} (S : St) (out : Int32 × St) (h : f_X7_wordHere S = some out) : Rn yX7_wordHere cX7_wordHere 1 (some .int) (k_rm 5) 0 0 D dy S (k_Pi dy out) 0 [(0, .ref (D.2.2 23))] [] := by
    unfold f_X7_wordHere at h
    refine r_aload_n 0 dX7_wordHere_0 rfl rfl ?_
    refine r_ldcS (i := 6) (by decide) rfl rfl dX7_wordHere_1 ?_
    obtain ⟨q3, hq3, h⟩ := g_bind h
    refine r_callVi [.ref (D.2.2 (1000 + (6 : Nat)))] [] q3 (ok_X7_sees hq3) q_831 q_833 q_30 q_834 q_145 hd_X7_sees (ce_23 D dy _) kc7.1 rfl ⟨Nat.le_of_ble_eq_true rfl, Nat.le_of_ble_eq_true rfl⟩ rfl rfl (Nat.le_of_ble_eq_true rfl) dX7_wordHere_3 ?_
    refine r_if_eq (t := 11) dX7_wordHere_6 (by decide) (fun c => ?_) (fun c => ?_)
    · rw [if_pos c] at h
      refine r_aload_n 0 dX7_wordHere_11 rfl rfl ?_
      refine r_ldcS (i := 7) (by decide) rfl rfl dX7_wordHere_12 ?_
      obtain ⟨q14, hq14, h⟩ := g_bind h
      refine r_callVi [.ref (D.2.2 (1000 + (7 : Nat)))] [] q14 (ok_X7_sees hq14) q_831 q_833 q_30 q_834 q_145 hd_X7_sees (ce_23 D dy _) kc7.1 rfl ⟨Nat.le_of_ble_eq_true rfl, Nat.le_of_ble_eq_true rfl⟩ rfl rfl (Nat.le_of_ble_eq_true rfl) dX7_wordHere_14 ?_
      refine r_if_eq (t := 22) dX7_wordHere_17 (by decide) (fun c => ?_) (fun c => ?_)
      · rw [if_pos c] at h
        refine r_aload_n 0 dX7_wordHere_22 rfl rfl ?_
        refine r_ldcS (i := 8) (by decide) rfl rfl dX7_wordHere_23 ?_
        obtain ⟨q25, hq25, h⟩ := g_bind h
        refine r_callVi [.ref (D.2.2 (1000 + (8 : Nat)))] [] q25 (ok_X7_sees hq25) q_831 q_833 q_30 q_834 q_145 hd_X7_sees (ce_23 D dy _) kc7.1 rfl ⟨Nat.le_of_ble_eq_true rfl, Nat.le_of_ble_eq_true rfl⟩ rfl rfl (Nat.le_of_ble_eq_true rfl) dX7_wordHere_25 ?_
        refine r_if_eq (t := 33) dX7_wordHere_28 (by decide) (fun c => ?_) (fun c => ?_)
        · rw [if_pos c] at h
          refine r_aload_n 0 dX7_wordHere_33 rfl rfl ?_
          refine r_ldcS (i := 9) (by decide) rfl rfl dX7_wordHere_34 ?_
          obtain ⟨q36, hq36, h⟩ := g_bind h
          refine r_callVi [.ref (D.2.2 (1000 + (9 : Nat)))] [] q36 (ok_X7_sees hq36) q_831 q_833 q_30 q_834 q_145 hd_X7_sees (ce_23 D dy _) kc7.1 rfl ⟨Nat.le_of_ble_eq_true rfl, Nat.le_of_ble_eq_true rfl⟩ rfl rfl (Nat.le_of_ble_eq_true rfl) dX7_wordHere_36 ?_
          refine r_if_eq (t := 44) dX7_wordHere_39 (by decide) (fun c => ?_) (fun c => ?_)
          · rw [if_pos c] at h
            refine r_aload_n 0 dX7_wordHere_44 rfl rfl ?_
            refine r_ldcS (i := 10) (by decide) rfl rfl dX7_wordHere_45 ?_
            obtain ⟨q47, hq47, h⟩ := g_bind h
            refine r_callVi [.ref (D.2.2 (1000 + (10 : Nat)))] [] q47 (ok_X7_sees hq47) q_831 q_833 q_30 q_834 q_145 hd_X7_sees (ce_23 D dy _) kc7.1 rfl ⟨Nat.le_of_ble_eq_true rfl, Nat.le_of_ble_eq_true rfl⟩ rfl rfl (Nat.le_of_ble_eq_true rfl) dX7_wordHere_47 ?_
            refine r_if_eq (t := 55) dX7_wordHere_50 (by decide) (fun c => ?_) (fun c => ?_)
            · rw [if_pos c] at h
              refine r_aload_n 0 dX7_wordHere_55 rfl rfl ?_
              refine r_ldcS (i := 11) (by decide) rfl rfl dX7_wordHere_56 ?_
              obtain ⟨q58, hq58, h⟩ := g_bind h
              refine r_callVi [.ref (D.2.2 (1000 + (11 : Nat)))] [] q58 (ok_X7_sees hq58) q_831 q_833 q_30 q_834 q_145 hd_X7_sees (ce_23 D dy _) kc7.1 rfl ⟨Nat.le_of_ble_eq_true rfl, Nat.le_of_ble_eq_true rfl⟩ rfl rfl (Nat.le_of_ble_eq_true rfl) dX7_wordHere_58 ?_
              refine r_if_eq (t := 66) dX7_wordHere_61 (by decide) (fun c => ?_) (fun c => ?_)
              · rw [if_pos c] at h
                refine r_aload_n 0 dX7_wordHere_66 rfl rfl ?_
                refine r_ldcS (i := 12) (by decide) rfl rfl dX7_wordHere_67 ?_
                obtain ⟨q69, hq69, h⟩ := g_bind h
                refine r_callVi [.ref (D.2.2 (1000 + (12 : Nat)))] [] q69 (ok_X7_sees hq69) q_831 q_833 q_30 q_834 q_145 hd_X7_sees (ce_23 D dy _) kc7.1 rfl ⟨Nat.le_of_ble_eq_true rfl, Nat.le_of_ble_eq_true rfl⟩ rfl rfl (Nat.le_of_ble_eq_true rfl) dX7_wordHere_69 ?_
                refine r_if_eq (t := 80) dX7_wordHere_72 (by decide) (fun c => ?_) (fun c => ?_)
                · rw [if_pos c] at h
                  refine r_iconst (v := -1) dX7_wordHere_80 rfl ?_
                  refine r_sub [] rfl ?_
                  exact w_X7_wordHere_81 _ _ _ h
                · rw [if_neg c] at h
                  refine r_bipush (v := 6) dX7_wordHere_75 rfl ?_
                  refine r_goto (t := 81) dX7_wordHere_77 (by decide) ?_
                  refine r_sub [] rfl ?_
                  exact w_X7_wordHere_81 _ _ _ h
              · rw [if_neg c] at h
                refine r_iconst (v := 5) dX7_wordHere_64 rfl ?_
                cases h
                exact r_iret rfl dX7_wordHere_65 ⟨rfl, rfl, rfl⟩
            · rw [if_neg c] at h
              refine r_iconst (v := 4) dX7_wordHere_53 rfl ?_
              cases h
              exact r_iret rfl dX7_wordHere_54 ⟨rfl, rfl, rfl⟩
          · rw [if_neg c] at h
            refine r_iconst (v := 3) dX7_wordHere_42 rfl ?_
            cases h
            exact r_iret rfl dX7_wordHere_43 ⟨rfl, rfl, rfl⟩
        · rw [if_neg c] at h
          refine r_iconst (v := 2) dX7_wordHere_31 rfl ?_
          cases h
          exact r_iret rfl dX7_wordHere_32 ⟨rfl, rfl, rfl⟩
      · rw [if_neg c] at h
        refine r_iconst (v := 1) dX7_wordHere_20 rfl ?_
        cases h
        exact r_iret rfl dX7_wordHere_21 ⟨rfl, rfl, rfl⟩
    · rw [if_neg c] at h
      refine r_iconst (v := 0) dX7_wordHere_9 rfl ?_
      cases h
      exact r_iret rfl dX7_wordHere_10 ⟨rfl, rfl, rfl⟩
theorem ok_X7_wordHere {D : k_D} {dy : Nat → Nat} {S : St} {out : Int32 × St} (h : f_X7_wordHere S = some out) : Sp yX7_wordHere cX7_wordHere 1 (some .int) (k_rm 5) D dy S [.ref (D.2.2 23)] (k_Pi dy out) := Sp.of (by decide +kernel) (Nat.le_of_ble_eq_true rfl) (w_X7_wordHere_0 S out h)
noncomputable def f_X7_readPart_108 (ib : Int32 → Int32 → St → Option (Int32 × St)) (S : St) : Option (Int32 × St) := (f_X7_step S).bind fun q109 => some ((1 : Int32), q109)
noncomputable def f_X7_readPart_72 (ib : Int32 → Int32 → St → Option (Int32 × St)) (S : St) : Option (Int32 × St) := some ((0 : Int32), S)
noncomputable def f_X7_readPart_63 (ib : Int32 → Int32 → St → Option (Int32 × St)) (x2 : Int32) (x3 : Int32) (S : St) : Option (Int32 × St) := if (gI S 11) < (50 : Int32) then k_let (sI S 11 ((gI S 11) + (1 : Int32))) fun S1 => if x2 = 0 then (f_X7_put (5 : Int32) x3 S1).bind fun q104 => f_X7_readPart_108 ib q104.2 else (f_X7_put (4 : Int32) (gI S1 14) S1).bind fun q94 => f_X7_readPart_108 ib q94.2 else f_X7_readPart_72 ib S
noncomputable def f_X7_readPart_53 (ib : Int32 → Int32 → St → Option (Int32 × St)) (x2 : Int32) (s0 : Int32) (S : St) : Option (Int32 × St) := if x2 = 0 then if s0 = (-1 : Int32) then f_X7_readPart_72 ib S else f_X7_readPart_63 ib x2 s0 S else f_X7_readPart_63 ib x2 s0 S
noncomputable def f_X7_readPart_40 (ib : Int32 → Int32 → St → Option (Int32 × St)) (s0 : Int32) (S : St) : Option (Int32 × St) := if s0 = 0 then (f_X7_wordHere S).bind fun q50 => f_X7_readPart_53 ib s0 q50.1 q50.2 else f_X7_readPart_53 ib s0 (-1 : Int32) S
noncomputable def f_X7_readPart_39 (ib : Int32 → Int32 → St → Option (Int32 × St)) (S : St) : Option (Int32 × St) := f_X7_readPart_40 ib (0 : Int32) S
noncomputable def f_X7_readPart (ib : Int32 → Int32 → St → Option (Int32 × St)) (x1 : Int32) (S : St) : Option (Int32 × St) := (f_X7_seesSign (91 : Int32) S).bind fun q3 => if q3.1 = 0 then if (gI q3.2 13) = (2 : Int32) then if (1000 : Int32) < (gI q3.2 14) then f_X7_readPart_39 ib q3.2 else f_X7_readPart_40 ib (1 : Int32) q3.2 else f_X7_readPart_39 ib q3.2 else (ib x1 (93 : Int32) q3.2).bind fun q13 => if q13.1 = 0 ∨ q13.1 = 1 then some (q13.1, q13.2) else none
set_option maxRecDepth 100000 in
set_option maxHeartbeats 4000000 in
theorem w_X7_readPart_108 {D : k_D} {dy : Nat → Nat} {ib : Int32 → Int32 → St → Option (Int32 × St)} {d : Nat} (hib : ∀ (x1 x2 : Int32) (S : St) (out : Int32 × St), ib x1 x2 S = some out → Sp yX7_readInBrackets cX7_readInBrackets 4 (some .boolean) (k_rm d) D dy S [.ref (D.2.2 23), .int x1, .int x2] (k_Pi dy out)) (S : St) (out : Int32 × St) (h : f_X7_readPart_108 ib S = some out) : Rn yX7_readPart cX7_readPart 4 (some .boolean) (k_rm (d + 6)) 0 0 D dy S (k_Pi dy out) 108 [(0, .ref (D.2.2 23))] [] := by
    unfold f_X7_readPart_108 at h
    refine r_aload_n 0 dX7_readPart_108 rfl rfl ?_
    obtain ⟨q109, hq109, h⟩ := g_bind h
    refine r_callVv [] [] q109 (ok_X7_step hq109) q_808 q_810 q_25 q_811 q_145 hd_X7_step (ce_23 D dy _) kc7.1 rfl (k_rs (by omega) (by omega)) rfl rfl (Nat.le_of_ble_eq_true rfl) dX7_readPart_109 ?_
    refine r_iconst (v := 1) dX7_readPart_112 rfl ?_
    cases h
    exact r_zret rfl rfl dX7_readPart_113 ⟨rfl, rfl, rfl⟩
set_option maxRecDepth 100000 in
set_option maxHeartbeats 4000000 in
theorem w_X7_readPart_72 {D : k_D} {dy : Nat → Nat} {ib : Int32 → Int32 → St → Option (Int32 × St)} {d : Nat} (hib : ∀ (x1 x2 : Int32) (S : St) (out : Int32 × St), ib x1 x2 S = some out → Sp yX7_readInBrackets cX7_readInBrackets 4 (some .boolean) (k_rm d) D dy S [.ref (D.2.2 23), .int x1, .int x2] (k_Pi dy out)) (S : St) (out : Int32 × St) (h : f_X7_readPart_72 ib S = some out) : Rn yX7_readPart cX7_readPart 4 (some .boolean) (k_rm (d + 6)) 0 0 D dy S (k_Pi dy out) 72 [] [] := by
    unfold f_X7_readPart_72 at h
    refine r_iconst (v := 0) dX7_readPart_72 rfl ?_
    cases h
    exact r_zret rfl rfl dX7_readPart_73 ⟨rfl, rfl, rfl⟩
set_option maxRecDepth 100000 in
set_option maxHeartbeats 4000000 in
theorem w_X7_readPart_63 {D : k_D} {dy : Nat → Nat} {ib : Int32 → Int32 → St → Option (Int32 × St)} {d : Nat} (hib : ∀ (x1 x2 : Int32) (S : St) (out : Int32 × St), ib x1 x2 S = some out → Sp yX7_readInBrackets cX7_readInBrackets 4 (some .boolean) (k_rm d) D dy S [.ref (D.2.2 23), .int x1, .int x2] (k_Pi dy out)) (x2 : Int32) (x3 : Int32) (S : St) (out : Int32 × St) (h : f_X7_readPart_63 ib x2 x3 S = some out) : Rn yX7_readPart cX7_readPart 4 (some .boolean) (k_rm (d + 6)) 0 0 D dy S (k_Pi dy out) 63 [(0, .ref (D.2.2 23)), (2, .int x2), (3, .int x3)] [] := by
    unfold f_X7_readPart_63 at h
    refine r_aload_n 0 dX7_readPart_63 rfl rfl ?_
    refine gf_23_3 q_337 dX7_readPart_64 ?_
    refine r_bipush (v := 50) dX7_readPart_67 rfl ?_
    refine r_icmp_lt (t := 74) dX7_readPart_69 (by decide) (fun c => ?_) (fun c => ?_)
    · rw [if_pos c] at h
      refine r_aload_n 0 dX7_readPart_74 rfl rfl ?_
      refine r_dup dX7_readPart_75 rfl ?_
      refine gf_23_3 q_337 dX7_readPart_76 ?_
      refine r_iconst (v := 1) dX7_readPart_79 rfl ?_
      refine r_iadd dX7_readPart_80 ?_
      refine pf_23_3 q_337 dX7_readPart_81 ?_
      generalize sI S 11 ((gI S 11) + (1 : Int32)) = S1 at h ⊢
      replace h := g_let h
      refine r_iload_n 1 dX7_readPart_84 rfl rfl ?_
      refine r_if_eq (t := 101) dX7_readPart_85 (by decide) (fun c => ?_) (fun c => ?_)
      · rw [if_pos c] at h
        refine r_aload_n 0 dX7_readPart_101 rfl rfl ?_
        refine r_iconst (v := 5) dX7_readPart_102 rfl ?_
        refine r_iload_n 2 dX7_readPart_103 rfl rfl ?_
        obtain ⟨q104, hq104, h⟩ := g_bind h
        refine r_callVi [.int (5 : Int32), .int x3] [] q104 (ok_X7_put hq104) q_885 q_887 q_31 q_888 q_145 hd_X7_put (ce_23 D dy _) kc7.1 rfl (k_rs (by omega) (by omega)) rfl rfl (Nat.le_of_ble_eq_true rfl) dX7_readPart_104 ?_
        refine r_pop dX7_readPart_107 rfl ?_
        refine r_sub [0] rfl ?_
        exact w_X7_readPart_108 hib _ _ h
      · rw [if_neg c] at h
        refine r_aload_n 0 dX7_readPart_88 rfl rfl ?_
        refine r_iconst (v := 4) dX7_readPart_89 rfl ?_
        refine r_aload_n 0 dX7_readPart_90 rfl rfl ?_
        refine gf_23_6 q_340 dX7_readPart_91 ?_
        obtain ⟨q94, hq94, h⟩ := g_bind h
        refine r_callVi [.int (4 : Int32), .int (gI S1 14)] [] q94 (ok_X7_put hq94) q_885 q_887 q_31 q_888 q_145 hd_X7_put (ce_23 D dy _) kc7.1 rfl (k_rs (by omega) (by omega)) rfl rfl (Nat.le_of_ble_eq_true rfl) dX7_readPart_94 ?_
        refine r_pop dX7_readPart_97 rfl ?_
        refine r_goto (t := 108) dX7_readPart_98 (by decide) ?_
        refine r_sub [0] rfl ?_
        exact w_X7_readPart_108 hib _ _ h
    · rw [if_neg c] at h
      refine r_sub [] rfl ?_
      exact w_X7_readPart_72 hib _ _ h
set_option maxRecDepth 100000 in
set_option maxHeartbeats 4000000 in
theorem w_X7_readPart_53 {D : k_D} {dy : Nat → Nat} {ib : Int32 → Int32 → St → Option (Int32 × St)} {d : Nat} (hib : ∀ (x1 x2 : Int32) (S : St) (out : Int32 × St), ib x1 x2 S = some out → Sp yX7_readInBrackets cX7_readInBrackets 4 (some .boolean) (k_rm d) D dy S [.ref (D.2.2 23), .int x1, .int x2] (k_Pi dy out)) (x2 : Int32) (s0 : Int32) (S : St) (out : Int32 × St) (h : f_X7_readPart_53 ib x2 s0 S = some out) : Rn yX7_readPart cX7_readPart 4 (some .boolean) (k_rm (d + 6)) 0 0 D dy S (k_Pi dy out) 53 [(0, .ref (D.2.2 23)), (2, .int x2)] [.int s0] := by
    unfold f_X7_readPart_53 at h
    refine r_istore_n dX7_readPart_53 rfl (by decide) rfl ?_
    refine r_iload_n 2 dX7_readPart_54 rfl rfl ?_
    refine r_if_ne (t := 63) dX7_readPart_55 (by decide) (fun c => ?_) (fun c => ?_)
    · rw [if_neg c] at h
      refine r_sub [1, 2, 0] rfl ?_
      exact w_X7_readPart_63 hib _ _ _ _ h
    · rw [if_pos c] at h
      refine r_iload_n 0 dX7_readPart_58 rfl rfl ?_
      refine r_iconst (v := -1) dX7_readPart_59 rfl ?_
      refine r_icmp_eq (t := 72) dX7_readPart_60 (by decide) (fun c => ?_) (fun c => ?_)
      · rw [if_pos c] at h
        refine r_sub [] rfl ?_
        exact w_X7_readPart_72 hib _ _ h
      · rw [if_neg c] at h
        refine r_sub [1, 2, 0] rfl ?_
        exact w_X7_readPart_63 hib _ _ _ _ h
set_option maxRecDepth 100000 in
set_option maxHeartbeats 4000000 in
theorem w_X7_readPart_40 {D : k_D} {dy : Nat → Nat} {ib : Int32 → Int32 → St → Option (Int32 × St)} {d : Nat} (hib : ∀ (x1 x2 : Int32) (S : St) (out : Int32 × St), ib x1 x2 S = some out → Sp yX7_readInBrackets cX7_readInBrackets 4 (some .boolean) (k_rm d) D dy S [.ref (D.2.2 23), .int x1, .int x2] (k_Pi dy out)) (s0 : Int32) (S : St) (out : Int32 × St) (h : f_X7_readPart_40 ib s0 S = some out) : Rn yX7_readPart cX7_readPart 4 (some .boolean) (k_rm (d + 6)) 0 0 D dy S (k_Pi dy out) 40 [(0, .ref (D.2.2 23))] [.int s0] := by
    unfold f_X7_readPart_40 at h
    refine r_istore_n dX7_readPart_40 rfl (by decide) rfl ?_
    refine r_iload_n 0 dX7_readPart_41 rfl rfl ?_
    refine r_if_eq (t := 49) dX7_readPart_42 (by decide) (fun c => ?_) (fun c => ?_)
    · rw [if_pos c] at h
      refine r_aload_n 1 dX7_readPart_49 rfl rfl ?_
      obtain ⟨q50, hq50, h⟩ := g_bind h
      refine r_callVi [] [] q50 (ok_X7_wordHere hq50) q_932 q_934 q_42 q_935 q_145 hd_X7_wordHere (ce_23 D dy _) kc7.1 rfl (k_rs (by omega) (by omega)) rfl rfl (Nat.le_of_ble_eq_true rfl) dX7_readPart_50 ?_
      refine r_sub [1, 0] rfl ?_
      exact w_X7_readPart_53 hib _ _ _ _ h
    · rw [if_neg c] at h
      refine r_iconst (v := -1) dX7_readPart_45 rfl ?_
      refine r_goto (t := 53) dX7_readPart_46 (by decide) ?_
      refine r_sub [1, 0] rfl ?_
      exact w_X7_readPart_53 hib _ _ _ _ h
set_option maxRecDepth 100000 in
set_option maxHeartbeats 4000000 in
theorem w_X7_readPart_39 {D : k_D} {dy : Nat → Nat} {ib : Int32 → Int32 → St → Option (Int32 × St)} {d : Nat} (hib : ∀ (x1 x2 : Int32) (S : St) (out : Int32 × St), ib x1 x2 S = some out → Sp yX7_readInBrackets cX7_readInBrackets 4 (some .boolean) (k_rm d) D dy S [.ref (D.2.2 23), .int x1, .int x2] (k_Pi dy out)) (S : St) (out : Int32 × St) (h : f_X7_readPart_39 ib S = some out) : Rn yX7_readPart cX7_readPart 4 (some .boolean) (k_rm (d + 6)) 0 0 D dy S (k_Pi dy out) 39 [(0, .ref (D.2.2 23))] [] := by
    unfold f_X7_readPart_39 at h
    refine r_iconst (v := 0) dX7_readPart_39 rfl ?_
    exact w_X7_readPart_40 hib _ _ _ h
set_option maxRecDepth 100000 in
set_option maxHeartbeats 4000000 in
theorem w_X7_readPart_0 {D : k_D} {dy : Nat → Nat} {ib : Int32 → Int32 → St → Option (Int32 × St)} {d : Nat} (hib : ∀ (x1 x2 : Int32) (S : St) (out : Int32 × St), ib x1 x2 S = some out → Sp yX7_readInBrackets cX7_readInBrackets 4 (some .boolean) (k_rm d) D dy S [.ref (D.2.2 23), .int x1, .int x2] (k_Pi dy out)) (x1 : Int32) (S : St) (out : Int32 × St) (h : f_X7_readPart ib x1 S = some out) : Rn yX7_readPart cX7_readPart 4 (some .boolean) (k_rm (d + 6)) 0 0 D dy S (k_Pi dy out) 0 [(0, .ref (D.2.2 23)), (1, .int x1)] [] := by
    unfold f_X7_readPart at h
    refine r_aload_n 0 dX7_readPart_0 rfl rfl ?_
    refine r_bipush (v := 91) dX7_readPart_1 rfl ?_
    obtain ⟨q3, hq3, h⟩ := g_bind h
    refine r_callVi [.int (91 : Int32)] [] q3 (ok_X7_seesSign hq3) q_901 q_903 q_35 q_904 q_145 hd_X7_seesSign (ce_23 D dy _) kc7.1 rfl (k_rs (by omega) (by omega)) rfl rfl (Nat.le_of_ble_eq_true rfl) dX7_readPart_3 ?_
    refine r_if_eq (t := 17) dX7_readPart_6 (by decide) (fun c => ?_) (fun c => ?_)
    · rw [if_pos c] at h
      refine r_aload_n 0 dX7_readPart_17 rfl rfl ?_
      refine gf_23_5 q_339 dX7_readPart_18 ?_
      refine r_iconst (v := 2) dX7_readPart_21 rfl ?_
      refine r_icmp_ne (t := 39) dX7_readPart_22 (by decide) (fun c => ?_) (fun c => ?_)
      · rw [if_neg c] at h
        refine r_sub [0] rfl ?_
        exact w_X7_readPart_39 hib _ _ h
      · rw [if_pos c] at h
        refine r_aload_n 0 dX7_readPart_25 rfl rfl ?_
        refine gf_23_6 q_340 dX7_readPart_26 ?_
        refine r_sipush (v := 1000) dX7_readPart_29 rfl ?_
        refine r_icmp_gt (t := 39) dX7_readPart_32 (by decide) (fun c => ?_) (fun c => ?_)
        · rw [if_pos c] at h
          refine r_sub [0] rfl ?_
          exact w_X7_readPart_39 hib _ _ h
        · rw [if_neg c] at h
          refine r_iconst (v := 1) dX7_readPart_35 rfl ?_
          refine r_goto (t := 40) dX7_readPart_36 (by decide) ?_
          refine r_sub [0] rfl ?_
          exact w_X7_readPart_40 hib _ _ _ h
    · rw [if_neg c] at h
      refine r_aload_n 0 dX7_readPart_9 rfl rfl ?_
      refine r_iload_n 1 dX7_readPart_10 rfl rfl ?_
      refine r_bipush (v := 93) dX7_readPart_11 rfl ?_
      obtain ⟨q13, hq13, h⟩ := g_bind h
      refine r_callVi [.int x1, .int (93 : Int32)] [] q13 (hib _ _ _ _ hq13) q_905 q_907 q_36 q_908 q_145 hd_X7_readInBrackets (ce_23 D dy _) kc7.1 rfl (k_rs (by omega) (by omega)) rfl rfl (Nat.le_of_ble_eq_true rfl) dX7_readPart_13 ?_
      obtain ⟨c, h⟩ := g_ite h
      cases h
      exact r_zret rfl (k_zn c) dX7_readPart_16 ⟨rfl, rfl, rfl⟩
theorem ok_X7_readPart {D : k_D} {dy : Nat → Nat} {ib : Int32 → Int32 → St → Option (Int32 × St)} {d : Nat} (hib : ∀ (x1 x2 : Int32) (S : St) (out : Int32 × St), ib x1 x2 S = some out → Sp yX7_readInBrackets cX7_readInBrackets 4 (some .boolean) (k_rm d) D dy S [.ref (D.2.2 23), .int x1, .int x2] (k_Pi dy out)) {x1 : Int32} {S : St} {out : Int32 × St} (h : f_X7_readPart ib x1 S = some out) : Sp yX7_readPart cX7_readPart 4 (some .boolean) (k_rm (d + 6)) D dy S [.ref (D.2.2 23), .int x1] (k_Pi dy out) := Sp.of (by decide +kernel) (Nat.le_of_ble_eq_true rfl) (w_X7_readPart_0 hib _ S out h)
noncomputable def f_X7_readTerm_79 (ib : Int32 → Int32 → St → Option (Int32 × St)) (x2 : Int32) (S : St) : Option (Int32 × St) := if x2 = 0 ∨ x2 = 1 then some (x2, S) else none
noncomputable def f_X7_readTerm_53 (ib : Int32 → Int32 → St → Option (Int32 × St)) (k8 : Int32 → Int32 → Int32 → St → Option (Int32 × St)) (x1 : Int32) (x3 : Int32) (s0 : Int32) (S : St) : Option (Int32 × St) := (f_X7_step S).bind fun q56 => (f_X7_readPart ib x1 q56).bind fun q61 => (f_X7_put s0 (0 : Int32) q61.2).bind fun q69 => k8 x1 q61.1 (x3 + (1 : Int32)) q69.2
noncomputable def f_X7_readTerm_37 (ib : Int32 → Int32 → St → Option (Int32 × St)) (k8 : Int32 → Int32 → Int32 → St → Option (Int32 × St)) (x1 : Int32) (x3 : Int32) (S : St) : Option (Int32 × St) := (f_X7_seesSign (42 : Int32) S).bind fun q40 => if q40.1 = 0 then f_X7_readTerm_53 ib k8 x1 x3 (9 : Int32) q40.2 else f_X7_readTerm_53 ib k8 x1 x3 (8 : Int32) q40.2
noncomputable def f_X7_readTerm_8 (ib : Int32 → Int32 → St → Option (Int32 × St)) : Nat → Int32 → Int32 → Int32 → St → Option (Int32 × St)
  | 0, _, _, _, _ => none
  | n + 1, x1, x2, x3, S => if (400 : Int32) ≤ x3 then f_X7_readTerm_79 ib x2 S else if x2 = 0 then f_X7_readTerm_79 ib x2 S else (f_X7_seesSign (42 : Int32) S).bind fun q22 => if q22.1 = 0 then (f_X7_seesSign (47 : Int32) q22.2).bind fun q31 => if q31.1 = 0 then f_X7_readTerm_79 ib x2 q31.2 else f_X7_readTerm_37 ib (f_X7_readTerm_8 ib n) x1 x3 q31.2 else f_X7_readTerm_37 ib (f_X7_readTerm_8 ib n) x1 x3 q22.2
noncomputable def f_X7_readTerm (ib : Int32 → Int32 → St → Option (Int32 × St)) (x1 : Int32) (S : St) : Option (Int32 × St) := (f_X7_readPart ib x1 S).bind fun q2 => f_X7_readTerm_8 ib FU x1 q2.1 (0 : Int32) q2.2
set_option maxRecDepth 100000 in
set_option maxHeartbeats 4000000 in
theorem w_X7_readTerm_79 {D : k_D} {dy : Nat → Nat} {ib : Int32 → Int32 → St → Option (Int32 × St)} {d : Nat} (hib : ∀ (x1 x2 : Int32) (S : St) (out : Int32 × St), ib x1 x2 S = some out → Sp yX7_readInBrackets cX7_readInBrackets 4 (some .boolean) (k_rm d) D dy S [.ref (D.2.2 23), .int x1, .int x2] (k_Pi dy out)) (x2 : Int32) (S : St) (out : Int32 × St) (h : f_X7_readTerm_79 ib x2 S = some out) : Rn yX7_readTerm cX7_readTerm 5 (some .boolean) (k_rm (d + 7)) 0 0 D dy S (k_Pi dy out) 79 [(2, .int x2)] [] := by
    unfold f_X7_readTerm_79 at h
    refine r_iload_n 0 dX7_readTerm_79 rfl rfl ?_
    obtain ⟨c, h⟩ := g_ite h
    cases h
    exact r_zret rfl (k_zn c) dX7_readTerm_80 ⟨rfl, rfl, rfl⟩
set_option maxRecDepth 100000 in
set_option maxHeartbeats 4000000 in
theorem w_X7_readTerm_53 {D : k_D} {dy : Nat → Nat} {ib : Int32 → Int32 → St → Option (Int32 × St)} {d : Nat} (hib : ∀ (x1 x2 : Int32) (S : St) (out : Int32 × St), ib x1 x2 S = some out → Sp yX7_readInBrackets cX7_readInBrackets 4 (some .boolean) (k_rm d) D dy S [.ref (D.2.2 23), .int x1, .int x2] (k_Pi dy out)) {k8 : Int32 → Int32 → Int32 → St → Option (Int32 × St)} (hk8 : ∀ (x1 : Int32) (x2 : Int32) (x3 : Int32) (S : St) (out : Int32 × St), k8 x1 x2 x3 S = some out → Rn yX7_readTerm cX7_readTerm 5 (some .boolean) (k_rm (d + 7)) 0 0 D dy S (k_Pi dy out) 8 [(0, .ref (D.2.2 23)), (1, .int x1), (2, .int x2), (3, .int x3)] []) (x1 : Int32) (x3 : Int32) (s0 : Int32) (S : St) (out : Int32 × St) (h : f_X7_readTerm_53 ib k8 x1 x3 s0 S = some out) : Rn yX7_readTerm cX7_readTerm 5 (some .boolean) (k_rm (d + 7)) 0 0 D dy S (k_Pi dy out) 53 [(0, .ref (D.2.2 23)), (1, .int x1), (3, .int x3)] [.int s0] := by
    unfold f_X7_readTerm_53 at h
    refine r_istore dX7_readTerm_53 (by decide) rfl ?_
    refine r_aload_n 1 dX7_readTerm_55 rfl rfl ?_
    obtain ⟨q56, hq56, h⟩ := g_bind h
    refine r_callVv [] [] q56 (ok_X7_step hq56) q_808 q_810 q_25 q_811 q_145 hd_X7_step (ce_23 D dy _) kc7.1 rfl (k_rs (by omega) (by omega)) rfl rfl (Nat.le_of_ble_eq_true rfl) dX7_readTerm_56 ?_
    refine r_aload_n 1 dX7_readTerm_59 rfl rfl ?_
    refine r_iload_n 2 dX7_readTerm_60 rfl rfl ?_
    obtain ⟨q61, hq61, h⟩ := g_bind h
    refine r_callVi [.int x1] [] q61 (ok_X7_readPart hib hq61) q_897 q_899 q_34 q_900 q_145 hd_X7_readPart (ce_23 D dy _) kc7.1 rfl (k_rs (by omega) (by omega)) rfl rfl (Nat.le_of_ble_eq_true rfl) dX7_readTerm_61 ?_
    refine r_istore_n dX7_readTerm_64 rfl (by decide) rfl ?_
    refine r_aload_n 2 dX7_readTerm_65 rfl rfl ?_
    refine r_iload 1 dX7_readTerm_66 rfl ?_
    refine r_iconst (v := 0) dX7_readTerm_68 rfl ?_
    obtain ⟨q69, hq69, h⟩ := g_bind h
    refine r_callVi [.int s0, .int (0 : Int32)] [] q69 (ok_X7_put hq69) q_885 q_887 q_31 q_888 q_145 hd_X7_put (ce_23 D dy _) kc7.1 rfl (k_rs (by omega) (by omega)) rfl rfl (Nat.le_of_ble_eq_true rfl) dX7_readTerm_69 ?_
    refine r_pop dX7_readTerm_72 rfl ?_
    refine r_iinc (q := 4) (v := x3 + (1 : Int32)) dX7_readTerm_73 rfl rfl (by decide) rfl ?_
    refine r_goto (t := 8) dX7_readTerm_76 (by decide) ?_
    refine r_sub [3, 4, 1, 0] rfl ?_
    exact hk8 _ _ _ _ _ h
set_option maxRecDepth 100000 in
set_option maxHeartbeats 4000000 in
theorem w_X7_readTerm_37 {D : k_D} {dy : Nat → Nat} {ib : Int32 → Int32 → St → Option (Int32 × St)} {d : Nat} (hib : ∀ (x1 x2 : Int32) (S : St) (out : Int32 × St), ib x1 x2 S = some out → Sp yX7_readInBrackets cX7_readInBrackets 4 (some .boolean) (k_rm d) D dy S [.ref (D.2.2 23), .int x1, .int x2] (k_Pi dy out)) {k8 : Int32 → Int32 → Int32 → St → Option (Int32 × St)} (hk8 : ∀ (x1 : Int32) (x2 : Int32) (x3 : Int32) (S : St) (out : Int32 × St), k8 x1 x2 x3 S = some out → Rn yX7_readTerm cX7_readTerm 5 (some .boolean) (k_rm (d + 7)) 0 0 D dy S (k_Pi dy out) 8 [(0, .ref (D.2.2 23)), (1, .int x1), (2, .int x2), (3, .int x3)] []) (x1 : Int32) (x3 : Int32) (S : St) (out : Int32 × St) (h : f_X7_readTerm_37 ib k8 x1 x3 S = some out) : Rn yX7_readTerm cX7_readTerm 5 (some .boolean) (k_rm (d + 7)) 0 0 D dy S (k_Pi dy out) 37 [(0, .ref (D.2.2 23)), (1, .int x1), (3, .int x3)] [] := by
    unfold f_X7_readTerm_37 at h
    refine r_aload_n 0 dX7_readTerm_37 rfl rfl ?_
    refine r_bipush (v := 42) dX7_readTerm_38 rfl ?_
    obtain ⟨q40, hq40, h⟩ := g_bind h
    refine r_callVi [.int (42 : Int32)] [] q40 (ok_X7_seesSign hq40) q_901 q_903 q_35 q_904 q_145 hd_X7_seesSign (ce_23 D dy _) kc7.1 rfl (k_rs (by omega) (by omega)) rfl rfl (Nat.le_of_ble_eq_true rfl) dX7_readTerm_40 ?_
    refine r_if_eq (t := 51) dX7_readTerm_43 (by decide) (fun c => ?_) (fun c => ?_)
    · rw [if_pos c] at h
      refine r_bipush (v := 9) dX7_readTerm_51 rfl ?_
      exact w_X7_readTerm_53 hib hk8 _ _ _ _ _ h
    · rw [if_neg c] at h
      refine r_bipush (v := 8) dX7_readTerm_46 rfl ?_
      refine r_goto (t := 53) dX7_readTerm_48 (by decide) ?_
      exact w_X7_readTerm_53 hib hk8 _ _ _ _ _ h
set_option maxRecDepth 100000 in
set_option maxHeartbeats 4000000 in
theorem w_X7_readTerm_8 {D : k_D} {dy : Nat → Nat} {ib : Int32 → Int32 → St → Option (Int32 × St)} {d : Nat} (hib : ∀ (x1 x2 : Int32) (S : St) (out : Int32 × St), ib x1 x2 S = some out → Sp yX7_readInBrackets cX7_readInBrackets 4 (some .boolean) (k_rm d) D dy S [.ref (D.2.2 23), .int x1, .int x2] (k_Pi dy out)) : ∀ (n : Nat) (x1 : Int32) (x2 : Int32) (x3 : Int32) (S : St) (out : Int32 × St), f_X7_readTerm_8 ib n x1 x2 x3 S = some out → Rn yX7_readTerm cX7_readTerm 5 (some .boolean) (k_rm (d + 7)) 0 0 D dy S (k_Pi dy out) 8 [(0, .ref (D.2.2 23)), (1, .int x1), (2, .int x2), (3, .int x3)] [] := by
  intro n
  induction n with
  | zero => intro x1 x2 x3 S out h; cases h
  | succ n ih =>
    intro x1 x2 x3 S out h
    rw [f_X7_readTerm_8] at h
    refine r_iload_n 3 dX7_readTerm_8 rfl rfl ?_
    refine r_sipush (v := 400) dX7_readTerm_9 rfl ?_
    refine r_icmp_ge (t := 79) dX7_readTerm_12 (by decide) (fun c => ?_) (fun c => ?_)
    · rw [if_pos c] at h
      refine r_sub [2] rfl ?_
      exact w_X7_readTerm_79 hib _ _ _ h
    · rw [if_neg c] at h
      refine r_iload_n 2 dX7_readTerm_15 rfl rfl ?_
      refine r_if_eq (t := 79) dX7_readTerm_16 (by decide) (fun c => ?_) (fun c => ?_)
      · rw [if_pos c] at h
        refine r_sub [2] rfl ?_
        exact w_X7_readTerm_79 hib _ _ _ h
      · rw [if_neg c] at h
        refine r_aload_n 0 dX7_readTerm_19 rfl rfl ?_
        refine r_bipush (v := 42) dX7_readTerm_20 rfl ?_
        obtain ⟨q22, hq22, h⟩ := g_bind h
        refine r_callVi [.int (42 : Int32)] [] q22 (ok_X7_seesSign hq22) q_901 q_903 q_35 q_904 q_145 hd_X7_seesSign (ce_23 D dy _) kc7.1 rfl (k_rs (by omega) (by omega)) rfl rfl (Nat.le_of_ble_eq_true rfl) dX7_readTerm_22 ?_
        refine r_if_ne (t := 37) dX7_readTerm_25 (by decide) (fun c => ?_) (fun c => ?_)
        · rw [if_neg c] at h
          refine r_sub [0, 1, 3] rfl ?_
          exact w_X7_readTerm_37 hib ih _ _ _ _ h
        · rw [if_pos c] at h
          refine r_aload_n 0 dX7_readTerm_28 rfl rfl ?_
          refine r_bipush (v := 47) dX7_readTerm_29 rfl ?_
          obtain ⟨q31, hq31, h⟩ := g_bind h
          refine r_callVi [.int (47 : Int32)] [] q31 (ok_X7_seesSign hq31) q_901 q_903 q_35 q_904 q_145 hd_X7_seesSign (ce_23 D dy _) kc7.1 rfl (k_rs (by omega) (by omega)) rfl rfl (Nat.le_of_ble_eq_true rfl) dX7_readTerm_31 ?_
          refine r_if_eq (t := 79) dX7_readTerm_34 (by decide) (fun c => ?_) (fun c => ?_)
          · rw [if_pos c] at h
            refine r_sub [2] rfl ?_
            exact w_X7_readTerm_79 hib _ _ _ h
          · rw [if_neg c] at h
            refine r_sub [0, 1, 3] rfl ?_
            exact w_X7_readTerm_37 hib ih _ _ _ _ h
set_option maxRecDepth 100000 in
set_option maxHeartbeats 4000000 in
theorem w_X7_readTerm_0 {D : k_D} {dy : Nat → Nat} {ib : Int32 → Int32 → St → Option (Int32 × St)} {d : Nat} (hib : ∀ (x1 x2 : Int32) (S : St) (out : Int32 × St), ib x1 x2 S = some out → Sp yX7_readInBrackets cX7_readInBrackets 4 (some .boolean) (k_rm d) D dy S [.ref (D.2.2 23), .int x1, .int x2] (k_Pi dy out)) (x1 : Int32) (S : St) (out : Int32 × St) (h : f_X7_readTerm ib x1 S = some out) : Rn yX7_readTerm cX7_readTerm 5 (some .boolean) (k_rm (d + 7)) 0 0 D dy S (k_Pi dy out) 0 [(0, .ref (D.2.2 23)), (1, .int x1)] [] := by
    unfold f_X7_readTerm at h
    refine r_aload_n 0 dX7_readTerm_0 rfl rfl ?_
    refine r_iload_n 1 dX7_readTerm_1 rfl rfl ?_
    obtain ⟨q2, hq2, h⟩ := g_bind h
    refine r_callVi [.int x1] [] q2 (ok_X7_readPart hib hq2) q_897 q_899 q_34 q_900 q_145 hd_X7_readPart (ce_23 D dy _) kc7.1 rfl (k_rs (by omega) (by omega)) rfl rfl (Nat.le_of_ble_eq_true rfl) dX7_readTerm_2 ?_
    refine r_istore_n dX7_readTerm_5 rfl (by decide) rfl ?_
    refine r_iconst (v := 0) dX7_readTerm_6 rfl ?_
    refine r_istore_n dX7_readTerm_7 rfl (by decide) rfl ?_
    refine r_sub [2, 3, 1, 0] rfl ?_
    exact w_X7_readTerm_8 hib _ _ _ _ _ _ h
theorem ok_X7_readTerm {D : k_D} {dy : Nat → Nat} {ib : Int32 → Int32 → St → Option (Int32 × St)} {d : Nat} (hib : ∀ (x1 x2 : Int32) (S : St) (out : Int32 × St), ib x1 x2 S = some out → Sp yX7_readInBrackets cX7_readInBrackets 4 (some .boolean) (k_rm d) D dy S [.ref (D.2.2 23), .int x1, .int x2] (k_Pi dy out)) {x1 : Int32} {S : St} {out : Int32 × St} (h : f_X7_readTerm ib x1 S = some out) : Sp yX7_readTerm cX7_readTerm 5 (some .boolean) (k_rm (d + 7)) D dy S [.ref (D.2.2 23), .int x1] (k_Pi dy out) := Sp.of (by decide +kernel) (Nat.le_of_ble_eq_true rfl) (w_X7_readTerm_0 hib _ S out h)
noncomputable def f_X7_readSum_79 (ib : Int32 → Int32 → St → Option (Int32 × St)) (x2 : Int32) (S : St) : Option (Int32 × St) := if x2 = 0 ∨ x2 = 1 then some (x2, S) else none
noncomputable def f_X7_readSum_53 (ib : Int32 → Int32 → St → Option (Int32 × St)) (k8 : Int32 → Int32 → Int32 → St → Option (Int32 × St)) (x1 : Int32) (x3 : Int32) (s0 : Int32) (S : St) : Option (Int32 × St) := (f_X7_step S).bind fun q56 => (f_X7_readTerm ib x1 q56).bind fun q61 => (f_X7_put s0 (0 : Int32) q61.2).bind fun q69 => k8 x1 q61.1 (x3 + (1 : Int32)) q69.2
noncomputable def f_X7_readSum_37 (ib : Int32 → Int32 → St → Option (Int32 × St)) (k8 : Int32 → Int32 → Int32 → St → Option (Int32 × St)) (x1 : Int32) (x3 : Int32) (S : St) : Option (Int32 × St) := (f_X7_seesSign (43 : Int32) S).bind fun q40 => if q40.1 = 0 then f_X7_readSum_53 ib k8 x1 x3 (7 : Int32) q40.2 else f_X7_readSum_53 ib k8 x1 x3 (6 : Int32) q40.2
noncomputable def f_X7_readSum_8 (ib : Int32 → Int32 → St → Option (Int32 × St)) : Nat → Int32 → Int32 → Int32 → St → Option (Int32 × St)
  | 0, _, _, _, _ => none
  | n + 1, x1, x2, x3, S => if (400 : Int32) ≤ x3 then f_X7_readSum_79 ib x2 S else if x2 = 0 then f_X7_readSum_79 ib x2 S else (f_X7_seesSign (43 : Int32) S).bind fun q22 => if q22.1 = 0 then (f_X7_seesSign (45 : Int32) q22.2).bind fun q31 => if q31.1 = 0 then f_X7_readSum_79 ib x2 q31.2 else f_X7_readSum_37 ib (f_X7_readSum_8 ib n) x1 x3 q31.2 else f_X7_readSum_37 ib (f_X7_readSum_8 ib n) x1 x3 q22.2
noncomputable def f_X7_readSum (ib : Int32 → Int32 → St → Option (Int32 × St)) (x1 : Int32) (S : St) : Option (Int32 × St) := (f_X7_readTerm ib x1 S).bind fun q2 => f_X7_readSum_8 ib FU x1 q2.1 (0 : Int32) q2.2
set_option maxRecDepth 100000 in
set_option maxHeartbeats 4000000 in
theorem w_X7_readSum_79 {D : k_D} {dy : Nat → Nat} {ib : Int32 → Int32 → St → Option (Int32 × St)} {d : Nat} (hib : ∀ (x1 x2 : Int32) (S : St) (out : Int32 × St), ib x1 x2 S = some out → Sp yX7_readInBrackets cX7_readInBrackets 4 (some .boolean) (k_rm d) D dy S [.ref (D.2.2 23), .int x1, .int x2] (k_Pi dy out)) (x2 : Int32) (S : St) (out : Int32 × St) (h : f_X7_readSum_79 ib x2 S = some out) : Rn yX7_readSum cX7_readSum 5 (some .boolean) (k_rm (d + 8)) 0 0 D dy S (k_Pi dy out) 79 [(2, .int x2)] [] := by
    unfold f_X7_readSum_79 at h
    refine r_iload_n 0 dX7_readSum_79 rfl rfl ?_
    obtain ⟨c, h⟩ := g_ite h
    cases h
    exact r_zret rfl (k_zn c) dX7_readSum_80 ⟨rfl, rfl, rfl⟩
set_option maxRecDepth 100000 in
set_option maxHeartbeats 4000000 in
theorem w_X7_readSum_53 {D : k_D} {dy : Nat → Nat} {ib : Int32 → Int32 → St → Option (Int32 × St)} {d : Nat} (hib : ∀ (x1 x2 : Int32) (S : St) (out : Int32 × St), ib x1 x2 S = some out → Sp yX7_readInBrackets cX7_readInBrackets 4 (some .boolean) (k_rm d) D dy S [.ref (D.2.2 23), .int x1, .int x2] (k_Pi dy out)) {k8 : Int32 → Int32 → Int32 → St → Option (Int32 × St)} (hk8 : ∀ (x1 : Int32) (x2 : Int32) (x3 : Int32) (S : St) (out : Int32 × St), k8 x1 x2 x3 S = some out → Rn yX7_readSum cX7_readSum 5 (some .boolean) (k_rm (d + 8)) 0 0 D dy S (k_Pi dy out) 8 [(0, .ref (D.2.2 23)), (1, .int x1), (2, .int x2), (3, .int x3)] []) (x1 : Int32) (x3 : Int32) (s0 : Int32) (S : St) (out : Int32 × St) (h : f_X7_readSum_53 ib k8 x1 x3 s0 S = some out) : Rn yX7_readSum cX7_readSum 5 (some .boolean) (k_rm (d + 8)) 0 0 D dy S (k_Pi dy out) 53 [(0, .ref (D.2.2 23)), (1, .int x1), (3, .int x3)] [.int s0] := by
    unfold f_X7_readSum_53 at h
    refine r_istore dX7_readSum_53 (by decide) rfl ?_
    refine r_aload_n 1 dX7_readSum_55 rfl rfl ?_
    obtain ⟨q56, hq56, h⟩ := g_bind h
    refine r_callVv [] [] q56 (ok_X7_step hq56) q_808 q_810 q_25 q_811 q_145 hd_X7_step (ce_23 D dy _) kc7.1 rfl (k_rs (by omega) (by omega)) rfl rfl (Nat.le_of_ble_eq_true rfl) dX7_readSum_56 ?_
    refine r_aload_n 1 dX7_readSum_59 rfl rfl ?_
    refine r_iload_n 2 dX7_readSum_60 rfl rfl ?_
    obtain ⟨q61, hq61, h⟩ := g_bind h
    refine r_callVi [.int x1] [] q61 (ok_X7_readTerm hib hq61) q_893 q_895 q_33 q_896 q_145 hd_X7_readTerm (ce_23 D dy _) kc7.1 rfl (k_rs (by omega) (by omega)) rfl rfl (Nat.le_of_ble_eq_true rfl) dX7_readSum_61 ?_
    refine r_istore_n dX7_readSum_64 rfl (by decide) rfl ?_
    refine r_aload_n 2 dX7_readSum_65 rfl rfl ?_
    refine r_iload 1 dX7_readSum_66 rfl ?_
    refine r_iconst (v := 0) dX7_readSum_68 rfl ?_
    obtain ⟨q69, hq69, h⟩ := g_bind h
    refine r_callVi [.int s0, .int (0 : Int32)] [] q69 (ok_X7_put hq69) q_885 q_887 q_31 q_888 q_145 hd_X7_put (ce_23 D dy _) kc7.1 rfl (k_rs (by omega) (by omega)) rfl rfl (Nat.le_of_ble_eq_true rfl) dX7_readSum_69 ?_
    refine r_pop dX7_readSum_72 rfl ?_
    refine r_iinc (q := 4) (v := x3 + (1 : Int32)) dX7_readSum_73 rfl rfl (by decide) rfl ?_
    refine r_goto (t := 8) dX7_readSum_76 (by decide) ?_
    refine r_sub [3, 4, 1, 0] rfl ?_
    exact hk8 _ _ _ _ _ h
set_option maxRecDepth 100000 in
set_option maxHeartbeats 4000000 in
theorem w_X7_readSum_37 {D : k_D} {dy : Nat → Nat} {ib : Int32 → Int32 → St → Option (Int32 × St)} {d : Nat} (hib : ∀ (x1 x2 : Int32) (S : St) (out : Int32 × St), ib x1 x2 S = some out → Sp yX7_readInBrackets cX7_readInBrackets 4 (some .boolean) (k_rm d) D dy S [.ref (D.2.2 23), .int x1, .int x2] (k_Pi dy out)) {k8 : Int32 → Int32 → Int32 → St → Option (Int32 × St)} (hk8 : ∀ (x1 : Int32) (x2 : Int32) (x3 : Int32) (S : St) (out : Int32 × St), k8 x1 x2 x3 S = some out → Rn yX7_readSum cX7_readSum 5 (some .boolean) (k_rm (d + 8)) 0 0 D dy S (k_Pi dy out) 8 [(0, .ref (D.2.2 23)), (1, .int x1), (2, .int x2), (3, .int x3)] []) (x1 : Int32) (x3 : Int32) (S : St) (out : Int32 × St) (h : f_X7_readSum_37 ib k8 x1 x3 S = some out) : Rn yX7_readSum cX7_readSum 5 (some .boolean) (k_rm (d + 8)) 0 0 D dy S (k_Pi dy out) 37 [(0, .ref (D.2.2 23)), (1, .int x1), (3, .int x3)] [] := by
    unfold f_X7_readSum_37 at h
    refine r_aload_n 0 dX7_readSum_37 rfl rfl ?_
    refine r_bipush (v := 43) dX7_readSum_38 rfl ?_
    obtain ⟨q40, hq40, h⟩ := g_bind h
    refine r_callVi [.int (43 : Int32)] [] q40 (ok_X7_seesSign hq40) q_901 q_903 q_35 q_904 q_145 hd_X7_seesSign (ce_23 D dy _) kc7.1 rfl (k_rs (by omega) (by omega)) rfl rfl (Nat.le_of_ble_eq_true rfl) dX7_readSum_40 ?_
    refine r_if_eq (t := 51) dX7_readSum_43 (by decide) (fun c => ?_) (fun c => ?_)
    · rw [if_pos c] at h
      refine r_bipush (v := 7) dX7_readSum_51 rfl ?_
      exact w_X7_readSum_53 hib hk8 _ _ _ _ _ h
    · rw [if_neg c] at h
      refine r_bipush (v := 6) dX7_readSum_46 rfl ?_
      refine r_goto (t := 53) dX7_readSum_48 (by decide) ?_
      exact w_X7_readSum_53 hib hk8 _ _ _ _ _ h
set_option maxRecDepth 100000 in
set_option maxHeartbeats 4000000 in
theorem w_X7_readSum_8 {D : k_D} {dy : Nat → Nat} {ib : Int32 → Int32 → St → Option (Int32 × St)} {d : Nat} (hib : ∀ (x1 x2 : Int32) (S : St) (out : Int32 × St), ib x1 x2 S = some out → Sp yX7_readInBrackets cX7_readInBrackets 4 (some .boolean) (k_rm d) D dy S [.ref (D.2.2 23), .int x1, .int x2] (k_Pi dy out)) : ∀ (n : Nat) (x1 : Int32) (x2 : Int32) (x3 : Int32) (S : St) (out : Int32 × St), f_X7_readSum_8 ib n x1 x2 x3 S = some out → Rn yX7_readSum cX7_readSum 5 (some .boolean) (k_rm (d + 8)) 0 0 D dy S (k_Pi dy out) 8 [(0, .ref (D.2.2 23)), (1, .int x1), (2, .int x2), (3, .int x3)] [] := by
  intro n
  induction n with
  | zero => intro x1 x2 x3 S out h; cases h
  | succ n ih =>
    intro x1 x2 x3 S out h
    rw [f_X7_readSum_8] at h
    refine r_iload_n 3 dX7_readSum_8 rfl rfl ?_
    refine r_sipush (v := 400) dX7_readSum_9 rfl ?_
    refine r_icmp_ge (t := 79) dX7_readSum_12 (by decide) (fun c => ?_) (fun c => ?_)
    · rw [if_pos c] at h
      refine r_sub [2] rfl ?_
      exact w_X7_readSum_79 hib _ _ _ h
    · rw [if_neg c] at h
      refine r_iload_n 2 dX7_readSum_15 rfl rfl ?_
      refine r_if_eq (t := 79) dX7_readSum_16 (by decide) (fun c => ?_) (fun c => ?_)
      · rw [if_pos c] at h
        refine r_sub [2] rfl ?_
        exact w_X7_readSum_79 hib _ _ _ h
      · rw [if_neg c] at h
        refine r_aload_n 0 dX7_readSum_19 rfl rfl ?_
        refine r_bipush (v := 43) dX7_readSum_20 rfl ?_
        obtain ⟨q22, hq22, h⟩ := g_bind h
        refine r_callVi [.int (43 : Int32)] [] q22 (ok_X7_seesSign hq22) q_901 q_903 q_35 q_904 q_145 hd_X7_seesSign (ce_23 D dy _) kc7.1 rfl (k_rs (by omega) (by omega)) rfl rfl (Nat.le_of_ble_eq_true rfl) dX7_readSum_22 ?_
        refine r_if_ne (t := 37) dX7_readSum_25 (by decide) (fun c => ?_) (fun c => ?_)
        · rw [if_neg c] at h
          refine r_sub [0, 1, 3] rfl ?_
          exact w_X7_readSum_37 hib ih _ _ _ _ h
        · rw [if_pos c] at h
          refine r_aload_n 0 dX7_readSum_28 rfl rfl ?_
          refine r_bipush (v := 45) dX7_readSum_29 rfl ?_
          obtain ⟨q31, hq31, h⟩ := g_bind h
          refine r_callVi [.int (45 : Int32)] [] q31 (ok_X7_seesSign hq31) q_901 q_903 q_35 q_904 q_145 hd_X7_seesSign (ce_23 D dy _) kc7.1 rfl (k_rs (by omega) (by omega)) rfl rfl (Nat.le_of_ble_eq_true rfl) dX7_readSum_31 ?_
          refine r_if_eq (t := 79) dX7_readSum_34 (by decide) (fun c => ?_) (fun c => ?_)
          · rw [if_pos c] at h
            refine r_sub [2] rfl ?_
            exact w_X7_readSum_79 hib _ _ _ h
          · rw [if_neg c] at h
            refine r_sub [0, 1, 3] rfl ?_
            exact w_X7_readSum_37 hib ih _ _ _ _ h
set_option maxRecDepth 100000 in
set_option maxHeartbeats 4000000 in
theorem w_X7_readSum_0 {D : k_D} {dy : Nat → Nat} {ib : Int32 → Int32 → St → Option (Int32 × St)} {d : Nat} (hib : ∀ (x1 x2 : Int32) (S : St) (out : Int32 × St), ib x1 x2 S = some out → Sp yX7_readInBrackets cX7_readInBrackets 4 (some .boolean) (k_rm d) D dy S [.ref (D.2.2 23), .int x1, .int x2] (k_Pi dy out)) (x1 : Int32) (S : St) (out : Int32 × St) (h : f_X7_readSum ib x1 S = some out) : Rn yX7_readSum cX7_readSum 5 (some .boolean) (k_rm (d + 8)) 0 0 D dy S (k_Pi dy out) 0 [(0, .ref (D.2.2 23)), (1, .int x1)] [] := by
    unfold f_X7_readSum at h
    refine r_aload_n 0 dX7_readSum_0 rfl rfl ?_
    refine r_iload_n 1 dX7_readSum_1 rfl rfl ?_
    obtain ⟨q2, hq2, h⟩ := g_bind h
    refine r_callVi [.int x1] [] q2 (ok_X7_readTerm hib hq2) q_893 q_895 q_33 q_896 q_145 hd_X7_readTerm (ce_23 D dy _) kc7.1 rfl (k_rs (by omega) (by omega)) rfl rfl (Nat.le_of_ble_eq_true rfl) dX7_readSum_2 ?_
    refine r_istore_n dX7_readSum_5 rfl (by decide) rfl ?_
    refine r_iconst (v := 0) dX7_readSum_6 rfl ?_
    refine r_istore_n dX7_readSum_7 rfl (by decide) rfl ?_
    refine r_sub [2, 3, 1, 0] rfl ?_
    exact w_X7_readSum_8 hib _ _ _ _ _ _ h
theorem ok_X7_readSum {D : k_D} {dy : Nat → Nat} {ib : Int32 → Int32 → St → Option (Int32 × St)} {d : Nat} (hib : ∀ (x1 x2 : Int32) (S : St) (out : Int32 × St), ib x1 x2 S = some out → Sp yX7_readInBrackets cX7_readInBrackets 4 (some .boolean) (k_rm d) D dy S [.ref (D.2.2 23), .int x1, .int x2] (k_Pi dy out)) {x1 : Int32} {S : St} {out : Int32 × St} (h : f_X7_readSum ib x1 S = some out) : Sp yX7_readSum cX7_readSum 5 (some .boolean) (k_rm (d + 8)) D dy S [.ref (D.2.2 23), .int x1] (k_Pi dy out) := Sp.of (by decide +kernel) (Nat.le_of_ble_eq_true rfl) (w_X7_readSum_0 hib _ S out h)
noncomputable def f_X7_readComparison_53 (ib : Int32 → Int32 → St → Option (Int32 × St)) (x1 : Int32) (s0 : Int32) (S : St) : Option (Int32 × St) := if s0 = (-1 : Int32) then some ((0 : Int32), S) else (f_X7_step S).bind fun q62 => (f_X7_readSum ib x1 q62).bind fun q67 => (f_X7_put s0 (0 : Int32) q67.2).bind fun q74 => if q67.1 = 0 ∨ q67.1 = 1 then some (q67.1, q74.2) else none
noncomputable def f_X7_readComparison (ib : Int32 → Int32 → St → Option (Int32 × St)) (x1 : Int32) (S : St) : Option (Int32 × St) := (f_X7_readSum ib x1 S).bind fun q2 => if q2.1 = 0 then some ((0 : Int32), q2.2) else (f_X7_seesSign (60 : Int32) q2.2).bind fun q13 => if q13.1 = 0 then (f_X7_seesSign (62 : Int32) q13.2).bind fun q27 => if q27.1 = 0 then (f_X7_seesSign (61 : Int32) q27.2).bind fun q41 => if q41.1 = 0 then f_X7_readComparison_53 ib x1 (-1 : Int32) q41.2 else f_X7_readComparison_53 ib x1 (12 : Int32) q41.2 else f_X7_readComparison_53 ib x1 (11 : Int32) q27.2 else f_X7_readComparison_53 ib x1 (10 : Int32) q13.2
set_option maxRecDepth 100000 in
set_option maxHeartbeats 4000000 in
theorem w_X7_readComparison_53 {D : k_D} {dy : Nat → Nat} {ib : Int32 → Int32 → St → Option (Int32 × St)} {d : Nat} (hib : ∀ (x1 x2 : Int32) (S : St) (out : Int32 × St), ib x1 x2 S = some out → Sp yX7_readInBrackets cX7_readInBrackets 4 (some .boolean) (k_rm d) D dy S [.ref (D.2.2 23), .int x1, .int x2] (k_Pi dy out)) (x1 : Int32) (s0 : Int32) (S : St) (out : Int32 × St) (h : f_X7_readComparison_53 ib x1 s0 S = some out) : Rn yX7_readComparison cX7_readComparison 4 (some .boolean) (k_rm (d + 9)) 0 0 D dy S (k_Pi dy out) 53 [(0, .ref (D.2.2 23)), (1, .int x1)] [.int s0] := by
    unfold f_X7_readComparison_53 at h
    refine r_istore_n dX7_readComparison_53 rfl (by decide) rfl ?_
    refine r_iload_n 0 dX7_readComparison_54 rfl rfl ?_
    refine r_iconst (v := -1) dX7_readComparison_55 rfl ?_
    refine r_icmp_ne (t := 61) dX7_readComparison_56 (by decide) (fun c => ?_) (fun c => ?_)
    · rw [if_neg c] at h
      refine r_aload_n 1 dX7_readComparison_61 rfl rfl ?_
      obtain ⟨q62, hq62, h⟩ := g_bind h
      refine r_callVv [] [] q62 (ok_X7_step hq62) q_808 q_810 q_25 q_811 q_145 hd_X7_step (ce_23 D dy _) kc7.1 rfl (k_rs (by omega) (by omega)) rfl rfl (Nat.le_of_ble_eq_true rfl) dX7_readComparison_62 ?_
      refine r_aload_n 1 dX7_readComparison_65 rfl rfl ?_
      refine r_iload_n 2 dX7_readComparison_66 rfl rfl ?_
      obtain ⟨q67, hq67, h⟩ := g_bind h
      refine r_callVi [.int x1] [] q67 (ok_X7_readSum hib hq67) q_889 q_891 q_32 q_892 q_145 hd_X7_readSum (ce_23 D dy _) kc7.1 rfl (k_rs (by omega) (by omega)) rfl rfl (Nat.le_of_ble_eq_true rfl) dX7_readComparison_67 ?_
      refine r_istore_n dX7_readComparison_70 rfl (by decide) rfl ?_
      refine r_aload_n 2 dX7_readComparison_71 rfl rfl ?_
      refine r_iload_n 1 dX7_readComparison_72 rfl rfl ?_
      refine r_iconst (v := 0) dX7_readComparison_73 rfl ?_
      obtain ⟨q74, hq74, h⟩ := g_bind h
      refine r_callVi [.int s0, .int (0 : Int32)] [] q74 (ok_X7_put hq74) q_885 q_887 q_31 q_888 q_145 hd_X7_put (ce_23 D dy _) kc7.1 rfl (k_rs (by omega) (by omega)) rfl rfl (Nat.le_of_ble_eq_true rfl) dX7_readComparison_74 ?_
      refine r_pop dX7_readComparison_77 rfl ?_
      refine r_iload_n 0 dX7_readComparison_78 rfl rfl ?_
      obtain ⟨c, h⟩ := g_ite h
      cases h
      exact r_zret rfl (k_zn c) dX7_readComparison_79 ⟨rfl, rfl, rfl⟩
    · rw [if_pos c] at h
      refine r_iconst (v := 0) dX7_readComparison_59 rfl ?_
      cases h
      exact r_zret rfl rfl dX7_readComparison_60 ⟨rfl, rfl, rfl⟩
set_option maxRecDepth 100000 in
set_option maxHeartbeats 4000000 in
theorem w_X7_readComparison_0 {D : k_D} {dy : Nat → Nat} {ib : Int32 → Int32 → St → Option (Int32 × St)} {d : Nat} (hib : ∀ (x1 x2 : Int32) (S : St) (out : Int32 × St), ib x1 x2 S = some out → Sp yX7_readInBrackets cX7_readInBrackets 4 (some .boolean) (k_rm d) D dy S [.ref (D.2.2 23), .int x1, .int x2] (k_Pi dy out)) (x1 : Int32) (S : St) (out : Int32 × St) (h : f_X7_readComparison ib x1 S = some out) : Rn yX7_readComparison cX7_readComparison 4 (some .boolean) (k_rm (d + 9)) 0 0 D dy S (k_Pi dy out) 0 [(0, .ref (D.2.2 23)), (1, .int x1)] [] := by
    unfold f_X7_readComparison at h
    refine r_aload_n 0 dX7_readComparison_0 rfl rfl ?_
    refine r_iload_n 1 dX7_readComparison_1 rfl rfl ?_
    obtain ⟨q2, hq2, h⟩ := g_bind h
    refine r_callVi [.int x1] [] q2 (ok_X7_readSum hib hq2) q_889 q_891 q_32 q_892 q_145 hd_X7_readSum (ce_23 D dy _) kc7.1 rfl (k_rs (by omega) (by omega)) rfl rfl (Nat.le_of_ble_eq_true rfl) dX7_readComparison_2 ?_
    refine r_if_ne (t := 10) dX7_readComparison_5 (by decide) (fun c => ?_) (fun c => ?_)
    · rw [if_neg c] at h
      refine r_aload_n 0 dX7_readComparison_10 rfl rfl ?_
      refine r_bipush (v := 60) dX7_readComparison_11 rfl ?_
      obtain ⟨q13, hq13, h⟩ := g_bind h
      refine r_callVi [.int (60 : Int32)] [] q13 (ok_X7_seesSign hq13) q_901 q_903 q_35 q_904 q_145 hd_X7_seesSign (ce_23 D dy _) kc7.1 rfl (k_rs (by omega) (by omega)) rfl rfl (Nat.le_of_ble_eq_true rfl) dX7_readComparison_13 ?_
      refine r_if_eq (t := 24) dX7_readComparison_16 (by decide) (fun c => ?_) (fun c => ?_)
      · rw [if_pos c] at h
        refine r_aload_n 0 dX7_readComparison_24 rfl rfl ?_
        refine r_bipush (v := 62) dX7_readComparison_25 rfl ?_
        obtain ⟨q27, hq27, h⟩ := g_bind h
        refine r_callVi [.int (62 : Int32)] [] q27 (ok_X7_seesSign hq27) q_901 q_903 q_35 q_904 q_145 hd_X7_seesSign (ce_23 D dy _) kc7.1 rfl (k_rs (by omega) (by omega)) rfl rfl (Nat.le_of_ble_eq_true rfl) dX7_readComparison_27 ?_
        refine r_if_eq (t := 38) dX7_readComparison_30 (by decide) (fun c => ?_) (fun c => ?_)
        · rw [if_pos c] at h
          refine r_aload_n 0 dX7_readComparison_38 rfl rfl ?_
          refine r_bipush (v := 61) dX7_readComparison_39 rfl ?_
          obtain ⟨q41, hq41, h⟩ := g_bind h
          refine r_callVi [.int (61 : Int32)] [] q41 (ok_X7_seesSign hq41) q_901 q_903 q_35 q_904 q_145 hd_X7_seesSign (ce_23 D dy _) kc7.1 rfl (k_rs (by omega) (by omega)) rfl rfl (Nat.le_of_ble_eq_true rfl) dX7_readComparison_41 ?_
          refine r_if_eq (t := 52) dX7_readComparison_44 (by decide) (fun c => ?_) (fun c => ?_)
          · rw [if_pos c] at h
            refine r_iconst (v := -1) dX7_readComparison_52 rfl ?_
            exact w_X7_readComparison_53 hib _ _ _ _ h
          · rw [if_neg c] at h
            refine r_bipush (v := 12) dX7_readComparison_47 rfl ?_
            refine r_goto (t := 53) dX7_readComparison_49 (by decide) ?_
            exact w_X7_readComparison_53 hib _ _ _ _ h
        · rw [if_neg c] at h
          refine r_bipush (v := 11) dX7_readComparison_33 rfl ?_
          refine r_goto (t := 53) dX7_readComparison_35 (by decide) ?_
          exact w_X7_readComparison_53 hib _ _ _ _ h
      · rw [if_neg c] at h
        refine r_bipush (v := 10) dX7_readComparison_19 rfl ?_
        refine r_goto (t := 53) dX7_readComparison_21 (by decide) ?_
        exact w_X7_readComparison_53 hib _ _ _ _ h
    · rw [if_pos c] at h
      refine r_iconst (v := 0) dX7_readComparison_8 rfl ?_
      cases h
      exact r_zret rfl rfl dX7_readComparison_9 ⟨rfl, rfl, rfl⟩
theorem ok_X7_readComparison {D : k_D} {dy : Nat → Nat} {ib : Int32 → Int32 → St → Option (Int32 × St)} {d : Nat} (hib : ∀ (x1 x2 : Int32) (S : St) (out : Int32 × St), ib x1 x2 S = some out → Sp yX7_readInBrackets cX7_readInBrackets 4 (some .boolean) (k_rm d) D dy S [.ref (D.2.2 23), .int x1, .int x2] (k_Pi dy out)) {x1 : Int32} {S : St} {out : Int32 × St} (h : f_X7_readComparison ib x1 S = some out) : Sp yX7_readComparison cX7_readComparison 4 (some .boolean) (k_rm (d + 9)) D dy S [.ref (D.2.2 23), .int x1] (k_Pi dy out) := Sp.of (by decide +kernel) (Nat.le_of_ble_eq_true rfl) (w_X7_readComparison_0 hib _ S out h)
noncomputable def f_X7_readPlain_77 (ib : Int32 → Int32 → St → Option (Int32 × St)) (x3 : Int32) (S : St) : Option (Int32 × St) := if x3 = 0 ∨ x3 = 1 then some (x3, S) else none
noncomputable def f_X7_readPlain_64 (ib : Int32 → Int32 → St → Option (Int32 × St)) (x2 : Int32) (s0 : Int32) (S : St) : Option (Int32 × St) := if x2 = 0 then f_X7_readPlain_77 ib s0 S else (f_X7_put (13 : Int32) (0 : Int32) S).bind fun q73 => f_X7_readPlain_77 ib s0 q73.2
noncomputable def f_X7_readPlain_40 (ib : Int32 → Int32 → St → Option (Int32 × St)) (x1 : Int32) (x2 : Int32) (S : St) : Option (Int32 × St) := (f_X7_seesSign (40 : Int32) S).bind fun q43 => if q43.1 = 0 then (f_X7_readComparison ib x1 q43.2).bind fun q61 => f_X7_readPlain_64 ib x2 q61.1 q61.2 else (ib x1 (41 : Int32) q43.2).bind fun q53 => f_X7_readPlain_64 ib x2 q53.1 q53.2
noncomputable def f_X7_readPlain_29 (ib : Int32 → Int32 → St → Option (Int32 × St)) (k4 : Int32 → Int32 → Int32 → St → Option (Int32 × St)) (x1 : Int32) (x3 : Int32) (s0 : Int32) (S : St) : Option (Int32 × St) := (f_X7_step S).bind fun q31 => k4 x1 s0 (x3 + (1 : Int32)) q31
noncomputable def f_X7_readPlain_4 (ib : Int32 → Int32 → St → Option (Int32 × St)) : Nat → Int32 → Int32 → Int32 → St → Option (Int32 × St)
  | 0, _, _, _, _ => none
  | n + 1, x1, x2, x3, S => if (400 : Int32) ≤ x3 then f_X7_readPlain_40 ib x1 x2 S else (f_X7_sees (3 : Nat) S).bind fun q14 => if q14.1 = 0 then f_X7_readPlain_40 ib x1 x2 q14.2 else if x2 = 0 then f_X7_readPlain_29 ib (f_X7_readPlain_4 ib n) x1 x3 (1 : Int32) q14.2 else f_X7_readPlain_29 ib (f_X7_readPlain_4 ib n) x1 x3 (0 : Int32) q14.2
noncomputable def f_X7_readPlain (ib : Int32 → Int32 → St → Option (Int32 × St)) (x1 : Int32) (S : St) : Option (Int32 × St) := f_X7_readPlain_4 ib FU x1 (0 : Int32) (0 : Int32) S
set_option maxRecDepth 100000 in
set_option maxHeartbeats 4000000 in
theorem w_X7_readPlain_77 {D : k_D} {dy : Nat → Nat} {ib : Int32 → Int32 → St → Option (Int32 × St)} {d : Nat} (hib : ∀ (x1 x2 : Int32) (S : St) (out : Int32 × St), ib x1 x2 S = some out → Sp yX7_readInBrackets cX7_readInBrackets 4 (some .boolean) (k_rm d) D dy S [.ref (D.2.2 23), .int x1, .int x2] (k_Pi dy out)) (x3 : Int32) (S : St) (out : Int32 × St) (h : f_X7_readPlain_77 ib x3 S = some out) : Rn yX7_readPlain cX7_readPlain 4 (some .boolean) (k_rm (d + 10)) 0 0 D dy S (k_Pi dy out) 77 [(3, .int x3)] [] := by
    unfold f_X7_readPlain_77 at h
    refine r_iload_n 0 dX7_readPlain_77 rfl rfl ?_
    obtain ⟨c, h⟩ := g_ite h
    cases h
    exact r_zret rfl (k_zn c) dX7_readPlain_78 ⟨rfl, rfl, rfl⟩
set_option maxRecDepth 100000 in
set_option maxHeartbeats 4000000 in
theorem w_X7_readPlain_64 {D : k_D} {dy : Nat → Nat} {ib : Int32 → Int32 → St → Option (Int32 × St)} {d : Nat} (hib : ∀ (x1 x2 : Int32) (S : St) (out : Int32 × St), ib x1 x2 S = some out → Sp yX7_readInBrackets cX7_readInBrackets 4 (some .boolean) (k_rm d) D dy S [.ref (D.2.2 23), .int x1, .int x2] (k_Pi dy out)) (x2 : Int32) (s0 : Int32) (S : St) (out : Int32 × St) (h : f_X7_readPlain_64 ib x2 s0 S = some out) : Rn yX7_readPlain cX7_readPlain 4 (some .boolean) (k_rm (d + 10)) 0 0 D dy S (k_Pi dy out) 64 [(0, .ref (D.2.2 23)), (2, .int x2)] [.int s0] := by
    unfold f_X7_readPlain_64 at h
    refine r_istore_n dX7_readPlain_64 rfl (by decide) rfl ?_
    refine r_iload_n 2 dX7_readPlain_65 rfl rfl ?_
    refine r_if_eq (t := 77) dX7_readPlain_66 (by decide) (fun c => ?_) (fun c => ?_)
    · rw [if_pos c] at h
      refine r_sub [0] rfl ?_
      exact w_X7_readPlain_77 hib _ _ _ h
    · rw [if_neg c] at h
      refine r_aload_n 1 dX7_readPlain_69 rfl rfl ?_
      refine r_bipush (v := 13) dX7_readPlain_70 rfl ?_
      refine r_iconst (v := 0) dX7_readPlain_72 rfl ?_
      obtain ⟨q73, hq73, h⟩ := g_bind h
      refine r_callVi [.int (13 : Int32), .int (0 : Int32)] [] q73 (ok_X7_put hq73) q_885 q_887 q_31 q_888 q_145 hd_X7_put (ce_23 D dy _) kc7.1 rfl (k_rs (by omega) (by omega)) rfl rfl (Nat.le_of_ble_eq_true rfl) dX7_readPlain_73 ?_
      refine r_pop dX7_readPlain_76 rfl ?_
      refine r_sub [0] rfl ?_
      exact w_X7_readPlain_77 hib _ _ _ h
set_option maxRecDepth 100000 in
set_option maxHeartbeats 4000000 in
theorem w_X7_readPlain_40 {D : k_D} {dy : Nat → Nat} {ib : Int32 → Int32 → St → Option (Int32 × St)} {d : Nat} (hib : ∀ (x1 x2 : Int32) (S : St) (out : Int32 × St), ib x1 x2 S = some out → Sp yX7_readInBrackets cX7_readInBrackets 4 (some .boolean) (k_rm d) D dy S [.ref (D.2.2 23), .int x1, .int x2] (k_Pi dy out)) (x1 : Int32) (x2 : Int32) (S : St) (out : Int32 × St) (h : f_X7_readPlain_40 ib x1 x2 S = some out) : Rn yX7_readPlain cX7_readPlain 4 (some .boolean) (k_rm (d + 10)) 0 0 D dy S (k_Pi dy out) 40 [(0, .ref (D.2.2 23)), (1, .int x1), (2, .int x2)] [] := by
    unfold f_X7_readPlain_40 at h
    refine r_aload_n 0 dX7_readPlain_40 rfl rfl ?_
    refine r_bipush (v := 40) dX7_readPlain_41 rfl ?_
    obtain ⟨q43, hq43, h⟩ := g_bind h
    refine r_callVi [.int (40 : Int32)] [] q43 (ok_X7_seesSign hq43) q_901 q_903 q_35 q_904 q_145 hd_X7_seesSign (ce_23 D dy _) kc7.1 rfl (k_rs (by omega) (by omega)) rfl rfl (Nat.le_of_ble_eq_true rfl) dX7_readPlain_43 ?_
    refine r_if_eq (t := 59) dX7_readPlain_46 (by decide) (fun c => ?_) (fun c => ?_)
    · rw [if_pos c] at h
      refine r_aload_n 0 dX7_readPlain_59 rfl rfl ?_
      refine r_iload_n 1 dX7_readPlain_60 rfl rfl ?_
      obtain ⟨q61, hq61, h⟩ := g_bind h
      refine r_callVi [.int x1] [] q61 (ok_X7_readComparison hib hq61) q_922 q_924 q_40 q_925 q_145 hd_X7_readComparison (ce_23 D dy _) kc7.1 rfl (k_rs (by omega) (by omega)) rfl rfl (Nat.le_of_ble_eq_true rfl) dX7_readPlain_61 ?_
      refine r_sub [0, 2] rfl ?_
      exact w_X7_readPlain_64 hib _ _ _ _ h
    · rw [if_neg c] at h
      refine r_aload_n 0 dX7_readPlain_49 rfl rfl ?_
      refine r_iload_n 1 dX7_readPlain_50 rfl rfl ?_
      refine r_bipush (v := 41) dX7_readPlain_51 rfl ?_
      obtain ⟨q53, hq53, h⟩ := g_bind h
      refine r_callVi [.int x1, .int (41 : Int32)] [] q53 (hib _ _ _ _ hq53) q_905 q_907 q_36 q_908 q_145 hd_X7_readInBrackets (ce_23 D dy _) kc7.1 rfl (k_rs (by omega) (by omega)) rfl rfl (Nat.le_of_ble_eq_true rfl) dX7_readPlain_53 ?_
      refine r_goto (t := 64) dX7_readPlain_56 (by decide) ?_
      refine r_sub [0, 2] rfl ?_
      exact w_X7_readPlain_64 hib _ _ _ _ h
set_option maxRecDepth 100000 in
set_option maxHeartbeats 4000000 in
theorem w_X7_readPlain_29 {D : k_D} {dy : Nat → Nat} {ib : Int32 → Int32 → St → Option (Int32 × St)} {d : Nat} (hib : ∀ (x1 x2 : Int32) (S : St) (out : Int32 × St), ib x1 x2 S = some out → Sp yX7_readInBrackets cX7_readInBrackets 4 (some .boolean) (k_rm d) D dy S [.ref (D.2.2 23), .int x1, .int x2] (k_Pi dy out)) {k4 : Int32 → Int32 → Int32 → St → Option (Int32 × St)} (hk4 : ∀ (x1 : Int32) (x2 : Int32) (x3 : Int32) (S : St) (out : Int32 × St), k4 x1 x2 x3 S = some out → Rn yX7_readPlain cX7_readPlain 4 (some .boolean) (k_rm (d + 10)) 0 0 D dy S (k_Pi dy out) 4 [(0, .ref (D.2.2 23)), (1, .int x1), (2, .int x2), (3, .int x3)] []) (x1 : Int32) (x3 : Int32) (s0 : Int32) (S : St) (out : Int32 × St) (h : f_X7_readPlain_29 ib k4 x1 x3 s0 S = some out) : Rn yX7_readPlain cX7_readPlain 4 (some .boolean) (k_rm (d + 10)) 0 0 D dy S (k_Pi dy out) 29 [(0, .ref (D.2.2 23)), (1, .int x1), (3, .int x3)] [.int s0] := by
    unfold f_X7_readPlain_29 at h
    refine r_istore_n dX7_readPlain_29 rfl (by decide) rfl ?_
    refine r_aload_n 1 dX7_readPlain_30 rfl rfl ?_
    obtain ⟨q31, hq31, h⟩ := g_bind h
    refine r_callVv [] [] q31 (ok_X7_step hq31) q_808 q_810 q_25 q_811 q_145 hd_X7_step (ce_23 D dy _) kc7.1 rfl (k_rs (by omega) (by omega)) rfl rfl (Nat.le_of_ble_eq_true rfl) dX7_readPlain_31 ?_
    refine r_iinc (q := 3) (v := x3 + (1 : Int32)) dX7_readPlain_34 rfl rfl (by decide) rfl ?_
    refine r_goto (t := 4) dX7_readPlain_37 (by decide) ?_
    refine r_sub [2, 3, 1, 0] rfl ?_
    exact hk4 _ _ _ _ _ h
set_option maxRecDepth 100000 in
set_option maxHeartbeats 4000000 in
theorem w_X7_readPlain_4 {D : k_D} {dy : Nat → Nat} {ib : Int32 → Int32 → St → Option (Int32 × St)} {d : Nat} (hib : ∀ (x1 x2 : Int32) (S : St) (out : Int32 × St), ib x1 x2 S = some out → Sp yX7_readInBrackets cX7_readInBrackets 4 (some .boolean) (k_rm d) D dy S [.ref (D.2.2 23), .int x1, .int x2] (k_Pi dy out)) : ∀ (n : Nat) (x1 : Int32) (x2 : Int32) (x3 : Int32) (S : St) (out : Int32 × St), f_X7_readPlain_4 ib n x1 x2 x3 S = some out → Rn yX7_readPlain cX7_readPlain 4 (some .boolean) (k_rm (d + 10)) 0 0 D dy S (k_Pi dy out) 4 [(0, .ref (D.2.2 23)), (1, .int x1), (2, .int x2), (3, .int x3)] [] := by
  intro n
  induction n with
  | zero => intro x1 x2 x3 S out h; cases h
  | succ n ih =>
    intro x1 x2 x3 S out h
    rw [f_X7_readPlain_4] at h
    refine r_iload_n 3 dX7_readPlain_4 rfl rfl ?_
    refine r_sipush (v := 400) dX7_readPlain_5 rfl ?_
    refine r_icmp_ge (t := 40) dX7_readPlain_8 (by decide) (fun c => ?_) (fun c => ?_)
    · rw [if_pos c] at h
      refine r_sub [0, 1, 2] rfl ?_
      exact w_X7_readPlain_40 hib _ _ _ _ h
    · rw [if_neg c] at h
      refine r_aload_n 0 dX7_readPlain_11 rfl rfl ?_
      refine r_ldcS (i := 3) (by decide) rfl rfl dX7_readPlain_12 ?_
      obtain ⟨q14, hq14, h⟩ := g_bind h
      refine r_callVi [.ref (D.2.2 (1000 + (3 : Nat)))] [] q14 (ok_X7_sees hq14) q_831 q_833 q_30 q_834 q_145 hd_X7_sees (ce_23 D dy _) kc7.1 rfl (k_rs (by omega) (by omega)) rfl rfl (Nat.le_of_ble_eq_true rfl) dX7_readPlain_14 ?_
      refine r_if_eq (t := 40) dX7_readPlain_17 (by decide) (fun c => ?_) (fun c => ?_)
      · rw [if_pos c] at h
        refine r_sub [0, 1, 2] rfl ?_
        exact w_X7_readPlain_40 hib _ _ _ _ h
      · rw [if_neg c] at h
        refine r_iload_n 2 dX7_readPlain_20 rfl rfl ?_
        refine r_if_ne (t := 28) dX7_readPlain_21 (by decide) (fun c => ?_) (fun c => ?_)
        · rw [if_neg c] at h
          refine r_iconst (v := 0) dX7_readPlain_28 rfl ?_
          refine r_sub [0, 1, 3] rfl ?_
          exact w_X7_readPlain_29 hib ih _ _ _ _ _ h
        · rw [if_pos c] at h
          refine r_iconst (v := 1) dX7_readPlain_24 rfl ?_
          refine r_goto (t := 29) dX7_readPlain_25 (by decide) ?_
          refine r_sub [0, 1, 3] rfl ?_
          exact w_X7_readPlain_29 hib ih _ _ _ _ _ h
set_option maxRecDepth 100000 in
set_option maxHeartbeats 4000000 in
theorem w_X7_readPlain_0 {D : k_D} {dy : Nat → Nat} {ib : Int32 → Int32 → St → Option (Int32 × St)} {d : Nat} (hib : ∀ (x1 x2 : Int32) (S : St) (out : Int32 × St), ib x1 x2 S = some out → Sp yX7_readInBrackets cX7_readInBrackets 4 (some .boolean) (k_rm d) D dy S [.ref (D.2.2 23), .int x1, .int x2] (k_Pi dy out)) (x1 : Int32) (S : St) (out : Int32 × St) (h : f_X7_readPlain ib x1 S = some out) : Rn yX7_readPlain cX7_readPlain 4 (some .boolean) (k_rm (d + 10)) 0 0 D dy S (k_Pi dy out) 0 [(0, .ref (D.2.2 23)), (1, .int x1)] [] := by
    unfold f_X7_readPlain at h
    refine r_iconst (v := 0) dX7_readPlain_0 rfl ?_
    refine r_istore_n dX7_readPlain_1 rfl (by decide) rfl ?_
    refine r_iconst (v := 0) dX7_readPlain_2 rfl ?_
    refine r_istore_n dX7_readPlain_3 rfl (by decide) rfl ?_
    refine r_sub [2, 3, 1, 0] rfl ?_
    exact w_X7_readPlain_4 hib _ _ _ _ _ _ h
theorem ok_X7_readPlain {D : k_D} {dy : Nat → Nat} {ib : Int32 → Int32 → St → Option (Int32 × St)} {d : Nat} (hib : ∀ (x1 x2 : Int32) (S : St) (out : Int32 × St), ib x1 x2 S = some out → Sp yX7_readInBrackets cX7_readInBrackets 4 (some .boolean) (k_rm d) D dy S [.ref (D.2.2 23), .int x1, .int x2] (k_Pi dy out)) {x1 : Int32} {S : St} {out : Int32 × St} (h : f_X7_readPlain ib x1 S = some out) : Sp yX7_readPlain cX7_readPlain 4 (some .boolean) (k_rm (d + 10)) D dy S [.ref (D.2.2 23), .int x1] (k_Pi dy out) := Sp.of (by decide +kernel) (Nat.le_of_ble_eq_true rfl) (w_X7_readPlain_0 hib _ S out h)
noncomputable def f_X7_readBoth_59 (ib : Int32 → Int32 → St → Option (Int32 × St)) (x2 : Int32) (S : St) : Option (Int32 × St) := if x2 = 0 ∨ x2 = 1 then some (x2, S) else none
noncomputable def f_X7_readBoth_8 (ib : Int32 → Int32 → St → Option (Int32 × St)) : Nat → Int32 → Int32 → Int32 → St → Option (Int32 × St)
  | 0, _, _, _, _ => none
  | n + 1, x1, x2, x3, S => if (400 : Int32) ≤ x3 then f_X7_readBoth_59 ib x2 S else if x2 = 0 then f_X7_readBoth_59 ib x2 S else (f_X7_sees (4 : Nat) S).bind fun q22 => if q22.1 = 0 then f_X7_readBoth_59 ib x2 q22.2 else (f_X7_put (15 : Int32) (0 : Int32) q22.2).bind fun q32 => (f_X7_step q32.2).bind fun q38 => (f_X7_readPlain ib x1 q38).bind fun q43 => (f_X7_leadHere q32.1 q43.2).bind fun q50 => f_X7_readBoth_8 ib n x1 q43.1 (x3 + (1 : Int32)) q50
noncomputable def f_X7_readBoth (ib : Int32 → Int32 → St → Option (Int32 × St)) (x1 : Int32) (S : St) : Option (Int32 × St) := (f_X7_readPlain ib x1 S).bind fun q2 => f_X7_readBoth_8 ib FU x1 q2.1 (0 : Int32) q2.2
set_option maxRecDepth 100000 in
set_option maxHeartbeats 4000000 in
theorem w_X7_readBoth_59 {D : k_D} {dy : Nat → Nat} {ib : Int32 → Int32 → St → Option (Int32 × St)} {d : Nat} (hib : ∀ (x1 x2 : Int32) (S : St) (out : Int32 × St), ib x1 x2 S = some out → Sp yX7_readInBrackets cX7_readInBrackets 4 (some .boolean) (k_rm d) D dy S [.ref (D.2.2 23), .int x1, .int x2] (k_Pi dy out)) (x2 : Int32) (S : St) (out : Int32 × St) (h : f_X7_readBoth_59 ib x2 S = some out) : Rn yX7_readBoth cX7_readBoth 5 (some .boolean) (k_rm (d + 11)) 0 0 D dy S (k_Pi dy out) 59 [(2, .int x2)] [] := by
    unfold f_X7_readBoth_59 at h
    refine r_iload_n 0 dX7_readBoth_59 rfl rfl ?_
    obtain ⟨c, h⟩ := g_ite h
    cases h
    exact r_zret rfl (k_zn c) dX7_readBoth_60 ⟨rfl, rfl, rfl⟩
set_option maxRecDepth 100000 in
set_option maxHeartbeats 4000000 in
theorem w_X7_readBoth_8 {D : k_D} {dy : Nat → Nat} {ib : Int32 → Int32 → St → Option (Int32 × St)} {d : Nat} (hib : ∀ (x1 x2 : Int32) (S : St) (out : Int32 × St), ib x1 x2 S = some out → Sp yX7_readInBrackets cX7_readInBrackets 4 (some .boolean) (k_rm d) D dy S [.ref (D.2.2 23), .int x1, .int x2] (k_Pi dy out)) : ∀ (n : Nat) (x1 : Int32) (x2 : Int32) (x3 : Int32) (S : St) (out : Int32 × St), f_X7_readBoth_8 ib n x1 x2 x3 S = some out → Rn yX7_readBoth cX7_readBoth 5 (some .boolean) (k_rm (d + 11)) 0 0 D dy S (k_Pi dy out) 8 [(0, .ref (D.2.2 23)), (1, .int x1), (2, .int x2), (3, .int x3)] [] := by
  intro n
  induction n with
  | zero => intro x1 x2 x3 S out h; cases h
  | succ n ih =>
    intro x1 x2 x3 S out h
    rw [f_X7_readBoth_8] at h
    refine r_iload_n 3 dX7_readBoth_8 rfl rfl ?_
    refine r_sipush (v := 400) dX7_readBoth_9 rfl ?_
    refine r_icmp_ge (t := 59) dX7_readBoth_12 (by decide) (fun c => ?_) (fun c => ?_)
    · rw [if_pos c] at h
      refine r_sub [2] rfl ?_
      exact w_X7_readBoth_59 hib _ _ _ h
    · rw [if_neg c] at h
      refine r_iload_n 2 dX7_readBoth_15 rfl rfl ?_
      refine r_if_eq (t := 59) dX7_readBoth_16 (by decide) (fun c => ?_) (fun c => ?_)
      · rw [if_pos c] at h
        refine r_sub [2] rfl ?_
        exact w_X7_readBoth_59 hib _ _ _ h
      · rw [if_neg c] at h
        refine r_aload_n 0 dX7_readBoth_19 rfl rfl ?_
        refine r_ldcS (i := 4) (by decide) rfl rfl dX7_readBoth_20 ?_
        obtain ⟨q22, hq22, h⟩ := g_bind h
        refine r_callVi [.ref (D.2.2 (1000 + (4 : Nat)))] [] q22 (ok_X7_sees hq22) q_831 q_833 q_30 q_834 q_145 hd_X7_sees (ce_23 D dy _) kc7.1 rfl (k_rs (by omega) (by omega)) rfl rfl (Nat.le_of_ble_eq_true rfl) dX7_readBoth_22 ?_
        refine r_if_eq (t := 59) dX7_readBoth_25 (by decide) (fun c => ?_) (fun c => ?_)
        · rw [if_pos c] at h
          refine r_sub [2] rfl ?_
          exact w_X7_readBoth_59 hib _ _ _ h
        · rw [if_neg c] at h
          refine r_aload_n 0 dX7_readBoth_28 rfl rfl ?_
          refine r_bipush (v := 15) dX7_readBoth_29 rfl ?_
          refine r_iconst (v := 0) dX7_readBoth_31 rfl ?_
          obtain ⟨q32, hq32, h⟩ := g_bind h
          refine r_callVi [.int (15 : Int32), .int (0 : Int32)] [] q32 (ok_X7_put hq32) q_885 q_887 q_31 q_888 q_145 hd_X7_put (ce_23 D dy _) kc7.1 rfl (k_rs (by omega) (by omega)) rfl rfl (Nat.le_of_ble_eq_true rfl) dX7_readBoth_32 ?_
          refine r_istore dX7_readBoth_35 (by decide) rfl ?_
          refine r_aload_n 1 dX7_readBoth_37 rfl rfl ?_
          obtain ⟨q38, hq38, h⟩ := g_bind h
          refine r_callVv [] [] q38 (ok_X7_step hq38) q_808 q_810 q_25 q_811 q_145 hd_X7_step (ce_23 D dy _) kc7.1 rfl (k_rs (by omega) (by omega)) rfl rfl (Nat.le_of_ble_eq_true rfl) dX7_readBoth_38 ?_
          refine r_aload_n 1 dX7_readBoth_41 rfl rfl ?_
          refine r_iload_n 2 dX7_readBoth_42 rfl rfl ?_
          obtain ⟨q43, hq43, h⟩ := g_bind h
          refine r_callVi [.int x1] [] q43 (ok_X7_readPlain hib hq43) q_917 q_919 q_39 q_920 q_145 hd_X7_readPlain (ce_23 D dy _) kc7.1 rfl (k_rs (by omega) (by omega)) rfl rfl (Nat.le_of_ble_eq_true rfl) dX7_readBoth_43 ?_
          refine r_istore_n dX7_readBoth_46 rfl (by decide) rfl ?_
          refine r_aload_n 2 dX7_readBoth_47 rfl rfl ?_
          refine r_iload 1 dX7_readBoth_48 rfl ?_
          obtain ⟨q50, hq50, h⟩ := g_bind h
          refine r_callVv [.int q32.1] [] q50 (ok_X7_leadHere hq50) q_927 q_929 q_41 q_930 q_145 hd_X7_leadHere (ce_23 D dy _) kc7.1 rfl (k_rs (by omega) (by omega)) rfl rfl (Nat.le_of_ble_eq_true rfl) dX7_readBoth_50 ?_
          refine r_iinc (q := 4) (v := x3 + (1 : Int32)) dX7_readBoth_53 rfl rfl (by decide) rfl ?_
          refine r_goto (t := 8) dX7_readBoth_56 (by decide) ?_
          refine r_sub [3, 4, 1, 0] rfl ?_
          exact ih _ _ _ _ _ h
set_option maxRecDepth 100000 in
set_option maxHeartbeats 4000000 in
theorem w_X7_readBoth_0 {D : k_D} {dy : Nat → Nat} {ib : Int32 → Int32 → St → Option (Int32 × St)} {d : Nat} (hib : ∀ (x1 x2 : Int32) (S : St) (out : Int32 × St), ib x1 x2 S = some out → Sp yX7_readInBrackets cX7_readInBrackets 4 (some .boolean) (k_rm d) D dy S [.ref (D.2.2 23), .int x1, .int x2] (k_Pi dy out)) (x1 : Int32) (S : St) (out : Int32 × St) (h : f_X7_readBoth ib x1 S = some out) : Rn yX7_readBoth cX7_readBoth 5 (some .boolean) (k_rm (d + 11)) 0 0 D dy S (k_Pi dy out) 0 [(0, .ref (D.2.2 23)), (1, .int x1)] [] := by
    unfold f_X7_readBoth at h
    refine r_aload_n 0 dX7_readBoth_0 rfl rfl ?_
    refine r_iload_n 1 dX7_readBoth_1 rfl rfl ?_
    obtain ⟨q2, hq2, h⟩ := g_bind h
    refine r_callVi [.int x1] [] q2 (ok_X7_readPlain hib hq2) q_917 q_919 q_39 q_920 q_145 hd_X7_readPlain (ce_23 D dy _) kc7.1 rfl (k_rs (by omega) (by omega)) rfl rfl (Nat.le_of_ble_eq_true rfl) dX7_readBoth_2 ?_
    refine r_istore_n dX7_readBoth_5 rfl (by decide) rfl ?_
    refine r_iconst (v := 0) dX7_readBoth_6 rfl ?_
    refine r_istore_n dX7_readBoth_7 rfl (by decide) rfl ?_
    refine r_sub [2, 3, 1, 0] rfl ?_
    exact w_X7_readBoth_8 hib _ _ _ _ _ _ h
theorem ok_X7_readBoth {D : k_D} {dy : Nat → Nat} {ib : Int32 → Int32 → St → Option (Int32 × St)} {d : Nat} (hib : ∀ (x1 x2 : Int32) (S : St) (out : Int32 × St), ib x1 x2 S = some out → Sp yX7_readInBrackets cX7_readInBrackets 4 (some .boolean) (k_rm d) D dy S [.ref (D.2.2 23), .int x1, .int x2] (k_Pi dy out)) {x1 : Int32} {S : St} {out : Int32 × St} (h : f_X7_readBoth ib x1 S = some out) : Sp yX7_readBoth cX7_readBoth 5 (some .boolean) (k_rm (d + 11)) D dy S [.ref (D.2.2 23), .int x1] (k_Pi dy out) := Sp.of (by decide +kernel) (Nat.le_of_ble_eq_true rfl) (w_X7_readBoth_0 hib _ S out h)
noncomputable def f_X7_readTest_59 (ib : Int32 → Int32 → St → Option (Int32 × St)) (x2 : Int32) (S : St) : Option (Int32 × St) := if x2 = 0 ∨ x2 = 1 then some (x2, S) else none
noncomputable def f_X7_readTest_8 (ib : Int32 → Int32 → St → Option (Int32 × St)) : Nat → Int32 → Int32 → Int32 → St → Option (Int32 × St)
  | 0, _, _, _, _ => none
  | n + 1, x1, x2, x3, S => if (400 : Int32) ≤ x3 then f_X7_readTest_59 ib x2 S else if x2 = 0 then f_X7_readTest_59 ib x2 S else (f_X7_sees (5 : Nat) S).bind fun q22 => if q22.1 = 0 then f_X7_readTest_59 ib x2 q22.2 else (f_X7_put (14 : Int32) (0 : Int32) q22.2).bind fun q32 => (f_X7_step q32.2).bind fun q38 => (f_X7_readBoth ib x1 q38).bind fun q43 => (f_X7_leadHere q32.1 q43.2).bind fun q50 => f_X7_readTest_8 ib n x1 q43.1 (x3 + (1 : Int32)) q50
noncomputable def f_X7_readTest (ib : Int32 → Int32 → St → Option (Int32 × St)) (x1 : Int32) (S : St) : Option (Int32 × St) := (f_X7_readBoth ib x1 S).bind fun q2 => f_X7_readTest_8 ib FU x1 q2.1 (0 : Int32) q2.2
set_option maxRecDepth 100000 in
set_option maxHeartbeats 4000000 in
theorem w_X7_readTest_59 {D : k_D} {dy : Nat → Nat} {ib : Int32 → Int32 → St → Option (Int32 × St)} {d : Nat} (hib : ∀ (x1 x2 : Int32) (S : St) (out : Int32 × St), ib x1 x2 S = some out → Sp yX7_readInBrackets cX7_readInBrackets 4 (some .boolean) (k_rm d) D dy S [.ref (D.2.2 23), .int x1, .int x2] (k_Pi dy out)) (x2 : Int32) (S : St) (out : Int32 × St) (h : f_X7_readTest_59 ib x2 S = some out) : Rn yX7_readTest cX7_readTest 5 (some .boolean) (k_rm (d + 12)) 0 0 D dy S (k_Pi dy out) 59 [(2, .int x2)] [] := by
    unfold f_X7_readTest_59 at h
    refine r_iload_n 0 dX7_readTest_59 rfl rfl ?_
    obtain ⟨c, h⟩ := g_ite h
    cases h
    exact r_zret rfl (k_zn c) dX7_readTest_60 ⟨rfl, rfl, rfl⟩
set_option maxRecDepth 100000 in
set_option maxHeartbeats 4000000 in
theorem w_X7_readTest_8 {D : k_D} {dy : Nat → Nat} {ib : Int32 → Int32 → St → Option (Int32 × St)} {d : Nat} (hib : ∀ (x1 x2 : Int32) (S : St) (out : Int32 × St), ib x1 x2 S = some out → Sp yX7_readInBrackets cX7_readInBrackets 4 (some .boolean) (k_rm d) D dy S [.ref (D.2.2 23), .int x1, .int x2] (k_Pi dy out)) : ∀ (n : Nat) (x1 : Int32) (x2 : Int32) (x3 : Int32) (S : St) (out : Int32 × St), f_X7_readTest_8 ib n x1 x2 x3 S = some out → Rn yX7_readTest cX7_readTest 5 (some .boolean) (k_rm (d + 12)) 0 0 D dy S (k_Pi dy out) 8 [(0, .ref (D.2.2 23)), (1, .int x1), (2, .int x2), (3, .int x3)] [] := by
  intro n
  induction n with
  | zero => intro x1 x2 x3 S out h; cases h
  | succ n ih =>
    intro x1 x2 x3 S out h
    rw [f_X7_readTest_8] at h
    refine r_iload_n 3 dX7_readTest_8 rfl rfl ?_
    refine r_sipush (v := 400) dX7_readTest_9 rfl ?_
    refine r_icmp_ge (t := 59) dX7_readTest_12 (by decide) (fun c => ?_) (fun c => ?_)
    · rw [if_pos c] at h
      refine r_sub [2] rfl ?_
      exact w_X7_readTest_59 hib _ _ _ h
    · rw [if_neg c] at h
      refine r_iload_n 2 dX7_readTest_15 rfl rfl ?_
      refine r_if_eq (t := 59) dX7_readTest_16 (by decide) (fun c => ?_) (fun c => ?_)
      · rw [if_pos c] at h
        refine r_sub [2] rfl ?_
        exact w_X7_readTest_59 hib _ _ _ h
      · rw [if_neg c] at h
        refine r_aload_n 0 dX7_readTest_19 rfl rfl ?_
        refine r_ldcS (i := 5) (by decide) rfl rfl dX7_readTest_20 ?_
        obtain ⟨q22, hq22, h⟩ := g_bind h
        refine r_callVi [.ref (D.2.2 (1000 + (5 : Nat)))] [] q22 (ok_X7_sees hq22) q_831 q_833 q_30 q_834 q_145 hd_X7_sees (ce_23 D dy _) kc7.1 rfl (k_rs (by omega) (by omega)) rfl rfl (Nat.le_of_ble_eq_true rfl) dX7_readTest_22 ?_
        refine r_if_eq (t := 59) dX7_readTest_25 (by decide) (fun c => ?_) (fun c => ?_)
        · rw [if_pos c] at h
          refine r_sub [2] rfl ?_
          exact w_X7_readTest_59 hib _ _ _ h
        · rw [if_neg c] at h
          refine r_aload_n 0 dX7_readTest_28 rfl rfl ?_
          refine r_bipush (v := 14) dX7_readTest_29 rfl ?_
          refine r_iconst (v := 0) dX7_readTest_31 rfl ?_
          obtain ⟨q32, hq32, h⟩ := g_bind h
          refine r_callVi [.int (14 : Int32), .int (0 : Int32)] [] q32 (ok_X7_put hq32) q_885 q_887 q_31 q_888 q_145 hd_X7_put (ce_23 D dy _) kc7.1 rfl (k_rs (by omega) (by omega)) rfl rfl (Nat.le_of_ble_eq_true rfl) dX7_readTest_32 ?_
          refine r_istore dX7_readTest_35 (by decide) rfl ?_
          refine r_aload_n 1 dX7_readTest_37 rfl rfl ?_
          obtain ⟨q38, hq38, h⟩ := g_bind h
          refine r_callVv [] [] q38 (ok_X7_step hq38) q_808 q_810 q_25 q_811 q_145 hd_X7_step (ce_23 D dy _) kc7.1 rfl (k_rs (by omega) (by omega)) rfl rfl (Nat.le_of_ble_eq_true rfl) dX7_readTest_38 ?_
          refine r_aload_n 1 dX7_readTest_41 rfl rfl ?_
          refine r_iload_n 2 dX7_readTest_42 rfl rfl ?_
          obtain ⟨q43, hq43, h⟩ := g_bind h
          refine r_callVi [.int x1] [] q43 (ok_X7_readBoth hib hq43) q_913 q_915 q_38 q_916 q_145 hd_X7_readBoth (ce_23 D dy _) kc7.1 rfl (k_rs (by omega) (by omega)) rfl rfl (Nat.le_of_ble_eq_true rfl) dX7_readTest_43 ?_
          refine r_istore_n dX7_readTest_46 rfl (by decide) rfl ?_
          refine r_aload_n 2 dX7_readTest_47 rfl rfl ?_
          refine r_iload 1 dX7_readTest_48 rfl ?_
          obtain ⟨q50, hq50, h⟩ := g_bind h
          refine r_callVv [.int q32.1] [] q50 (ok_X7_leadHere hq50) q_927 q_929 q_41 q_930 q_145 hd_X7_leadHere (ce_23 D dy _) kc7.1 rfl (k_rs (by omega) (by omega)) rfl rfl (Nat.le_of_ble_eq_true rfl) dX7_readTest_50 ?_
          refine r_iinc (q := 4) (v := x3 + (1 : Int32)) dX7_readTest_53 rfl rfl (by decide) rfl ?_
          refine r_goto (t := 8) dX7_readTest_56 (by decide) ?_
          refine r_sub [3, 4, 1, 0] rfl ?_
          exact ih _ _ _ _ _ h
set_option maxRecDepth 100000 in
set_option maxHeartbeats 4000000 in
theorem w_X7_readTest_0 {D : k_D} {dy : Nat → Nat} {ib : Int32 → Int32 → St → Option (Int32 × St)} {d : Nat} (hib : ∀ (x1 x2 : Int32) (S : St) (out : Int32 × St), ib x1 x2 S = some out → Sp yX7_readInBrackets cX7_readInBrackets 4 (some .boolean) (k_rm d) D dy S [.ref (D.2.2 23), .int x1, .int x2] (k_Pi dy out)) (x1 : Int32) (S : St) (out : Int32 × St) (h : f_X7_readTest ib x1 S = some out) : Rn yX7_readTest cX7_readTest 5 (some .boolean) (k_rm (d + 12)) 0 0 D dy S (k_Pi dy out) 0 [(0, .ref (D.2.2 23)), (1, .int x1)] [] := by
    unfold f_X7_readTest at h
    refine r_aload_n 0 dX7_readTest_0 rfl rfl ?_
    refine r_iload_n 1 dX7_readTest_1 rfl rfl ?_
    obtain ⟨q2, hq2, h⟩ := g_bind h
    refine r_callVi [.int x1] [] q2 (ok_X7_readBoth hib hq2) q_913 q_915 q_38 q_916 q_145 hd_X7_readBoth (ce_23 D dy _) kc7.1 rfl (k_rs (by omega) (by omega)) rfl rfl (Nat.le_of_ble_eq_true rfl) dX7_readTest_2 ?_
    refine r_istore_n dX7_readTest_5 rfl (by decide) rfl ?_
    refine r_iconst (v := 0) dX7_readTest_6 rfl ?_
    refine r_istore_n dX7_readTest_7 rfl (by decide) rfl ?_
    refine r_sub [2, 3, 1, 0] rfl ?_
    exact w_X7_readTest_8 hib _ _ _ _ _ _ h
theorem ok_X7_readTest {D : k_D} {dy : Nat → Nat} {ib : Int32 → Int32 → St → Option (Int32 × St)} {d : Nat} (hib : ∀ (x1 x2 : Int32) (S : St) (out : Int32 × St), ib x1 x2 S = some out → Sp yX7_readInBrackets cX7_readInBrackets 4 (some .boolean) (k_rm d) D dy S [.ref (D.2.2 23), .int x1, .int x2] (k_Pi dy out)) {x1 : Int32} {S : St} {out : Int32 × St} (h : f_X7_readTest ib x1 S = some out) : Sp yX7_readTest cX7_readTest 5 (some .boolean) (k_rm (d + 12)) D dy S [.ref (D.2.2 23), .int x1] (k_Pi dy out) := Sp.of (by decide +kernel) (Nat.le_of_ble_eq_true rfl) (w_X7_readTest_0 hib _ S out h)
noncomputable def f_X7_readInBrackets_48 (ib : Int32 → Int32 → St → Option (Int32 × St)) (S : St) : Option (Int32 × St) := some ((0 : Int32), S)
noncomputable def f_X7_readInBrackets_35 (ib : Int32 → Int32 → St → Option (Int32 × St)) (x2 : Int32) (s0 : Int32) (S : St) : Option (Int32 × St) := if s0 = 0 then f_X7_readInBrackets_48 ib S else (f_X7_seesSign x2 S).bind fun q42 => if q42.1 = 0 then f_X7_readInBrackets_48 ib q42.2 else (f_X7_step q42.2).bind fun q51 => some ((1 : Int32), q51)
noncomputable def f_X7_readInBrackets (ib : Int32 → Int32 → St → Option (Int32 × St)) (x1 : Int32) (x2 : Int32) (S : St) : Option (Int32 × St) := if x1 < (8 : Int32) then (f_X7_step S).bind fun q9 => if x2 = (41 : Int32) then (f_X7_readTest ib (x1 + (1 : Int32)) q9).bind fun q22 => f_X7_readInBrackets_35 ib x2 q22.1 q22.2 else (f_X7_readSum ib (x1 + (1 : Int32)) q9).bind fun q32 => f_X7_readInBrackets_35 ib x2 q32.1 q32.2 else some ((0 : Int32), S)
set_option maxRecDepth 100000 in
set_option maxHeartbeats 4000000 in
theorem w_X7_readInBrackets_48 {D : k_D} {dy : Nat → Nat} {ib : Int32 → Int32 → St → Option (Int32 × St)} {d : Nat} (hib : ∀ (x1 x2 : Int32) (S : St) (out : Int32 × St), ib x1 x2 S = some out → Sp yX7_readInBrackets cX7_readInBrackets 4 (some .boolean) (k_rm d) D dy S [.ref (D.2.2 23), .int x1, .int x2] (k_Pi dy out)) (S : St) (out : Int32 × St) (h : f_X7_readInBrackets_48 ib S = some out) : Rn yX7_readInBrackets cX7_readInBrackets 4 (some .boolean) (k_rm (d + 13)) 0 0 D dy S (k_Pi dy out) 48 [] [] := by
    unfold f_X7_readInBrackets_48 at h
    refine r_iconst (v := 0) dX7_readInBrackets_48 rfl ?_
    cases h
    exact r_zret rfl rfl dX7_readInBrackets_49 ⟨rfl, rfl, rfl⟩
set_option maxRecDepth 100000 in
set_option maxHeartbeats 4000000 in
theorem w_X7_readInBrackets_35 {D : k_D} {dy : Nat → Nat} {ib : Int32 → Int32 → St → Option (Int32 × St)} {d : Nat} (hib : ∀ (x1 x2 : Int32) (S : St) (out : Int32 × St), ib x1 x2 S = some out → Sp yX7_readInBrackets cX7_readInBrackets 4 (some .boolean) (k_rm d) D dy S [.ref (D.2.2 23), .int x1, .int x2] (k_Pi dy out)) (x2 : Int32) (s0 : Int32) (S : St) (out : Int32 × St) (h : f_X7_readInBrackets_35 ib x2 s0 S = some out) : Rn yX7_readInBrackets cX7_readInBrackets 4 (some .boolean) (k_rm (d + 13)) 0 0 D dy S (k_Pi dy out) 35 [(0, .ref (D.2.2 23)), (2, .int x2)] [.int s0] := by
    unfold f_X7_readInBrackets_35 at h
    refine r_istore_n dX7_readInBrackets_35 rfl (by decide) rfl ?_
    refine r_iload_n 0 dX7_readInBrackets_36 rfl rfl ?_
    refine r_if_eq (t := 48) dX7_readInBrackets_37 (by decide) (fun c => ?_) (fun c => ?_)
    · rw [if_pos c] at h
      refine r_sub [] rfl ?_
      exact w_X7_readInBrackets_48 hib _ _ h
    · rw [if_neg c] at h
      refine r_aload_n 1 dX7_readInBrackets_40 rfl rfl ?_
      refine r_iload_n 2 dX7_readInBrackets_41 rfl rfl ?_
      obtain ⟨q42, hq42, h⟩ := g_bind h
      refine r_callVi [.int x2] [] q42 (ok_X7_seesSign hq42) q_901 q_903 q_35 q_904 q_145 hd_X7_seesSign (ce_23 D dy _) kc7.1 rfl (k_rs (by omega) (by omega)) rfl rfl (Nat.le_of_ble_eq_true rfl) dX7_readInBrackets_42 ?_
      refine r_if_ne (t := 50) dX7_readInBrackets_45 (by decide) (fun c => ?_) (fun c => ?_)
      · rw [if_neg c] at h
        refine r_aload_n 1 dX7_readInBrackets_50 rfl rfl ?_
        obtain ⟨q51, hq51, h⟩ := g_bind h
        refine r_callVv [] [] q51 (ok_X7_step hq51) q_808 q_810 q_25 q_811 q_145 hd_X7_step (ce_23 D dy _) kc7.1 rfl (k_rs (by omega) (by omega)) rfl rfl (Nat.le_of_ble_eq_true rfl) dX7_readInBrackets_51 ?_
        refine r_iconst (v := 1) dX7_readInBrackets_54 rfl ?_
        cases h
        exact r_zret rfl rfl dX7_readInBrackets_55 ⟨rfl, rfl, rfl⟩
      · rw [if_pos c] at h
        refine r_sub [] rfl ?_
        exact w_X7_readInBrackets_48 hib _ _ h
set_option maxRecDepth 100000 in
set_option maxHeartbeats 4000000 in
theorem w_X7_readInBrackets_0 {D : k_D} {dy : Nat → Nat} {ib : Int32 → Int32 → St → Option (Int32 × St)} {d : Nat} (hib : ∀ (x1 x2 : Int32) (S : St) (out : Int32 × St), ib x1 x2 S = some out → Sp yX7_readInBrackets cX7_readInBrackets 4 (some .boolean) (k_rm d) D dy S [.ref (D.2.2 23), .int x1, .int x2] (k_Pi dy out)) (x1 : Int32) (x2 : Int32) (S : St) (out : Int32 × St) (h : f_X7_readInBrackets ib x1 x2 S = some out) : Rn yX7_readInBrackets cX7_readInBrackets 4 (some .boolean) (k_rm (d + 13)) 0 0 D dy S (k_Pi dy out) 0 [(0, .ref (D.2.2 23)), (1, .int x1), (2, .int x2)] [] := by
    unfold f_X7_readInBrackets at h
    refine r_iload_n 1 dX7_readInBrackets_0 rfl rfl ?_
    refine r_bipush (v := 8) dX7_readInBrackets_1 rfl ?_
    refine r_icmp_lt (t := 8) dX7_readInBrackets_3 (by decide) (fun c => ?_) (fun c => ?_)
    · rw [if_pos c] at h
      refine r_aload_n 0 dX7_readInBrackets_8 rfl rfl ?_
      obtain ⟨q9, hq9, h⟩ := g_bind h
      refine r_callVv [] [] q9 (ok_X7_step hq9) q_808 q_810 q_25 q_811 q_145 hd_X7_step (ce_23 D dy _) kc7.1 rfl (k_rs (by omega) (by omega)) rfl rfl (Nat.le_of_ble_eq_true rfl) dX7_readInBrackets_9 ?_
      refine r_iload_n 2 dX7_readInBrackets_12 rfl rfl ?_
      refine r_bipush (v := 41) dX7_readInBrackets_13 rfl ?_
      refine r_icmp_ne (t := 28) dX7_readInBrackets_15 (by decide) (fun c => ?_) (fun c => ?_)
      · rw [if_neg c] at h
        refine r_aload_n 0 dX7_readInBrackets_28 rfl rfl ?_
        refine r_iload_n 1 dX7_readInBrackets_29 rfl rfl ?_
        refine r_iconst (v := 1) dX7_readInBrackets_30 rfl ?_
        refine r_iadd dX7_readInBrackets_31 ?_
        obtain ⟨q32, hq32, h⟩ := g_bind h
        refine r_callVi [.int (x1 + (1 : Int32))] [] q32 (ok_X7_readSum hib hq32) q_889 q_891 q_32 q_892 q_145 hd_X7_readSum (ce_23 D dy _) kc7.1 rfl (k_rs (by omega) (by omega)) rfl rfl (Nat.le_of_ble_eq_true rfl) dX7_readInBrackets_32 ?_
        refine r_sub [0, 2] rfl ?_
        exact w_X7_readInBrackets_35 hib _ _ _ _ h
      · rw [if_pos c] at h
        refine r_aload_n 0 dX7_readInBrackets_18 rfl rfl ?_
        refine r_iload_n 1 dX7_readInBrackets_19 rfl rfl ?_
        refine r_iconst (v := 1) dX7_readInBrackets_20 rfl ?_
        refine r_iadd dX7_readInBrackets_21 ?_
        obtain ⟨q22, hq22, h⟩ := g_bind h
        refine r_callVi [.int (x1 + (1 : Int32))] [] q22 (ok_X7_readTest hib hq22) q_909 q_911 q_37 q_912 q_145 hd_X7_readTest (ce_23 D dy _) kc7.1 rfl (k_rs (by omega) (by omega)) rfl rfl (Nat.le_of_ble_eq_true rfl) dX7_readInBrackets_22 ?_
        refine r_goto (t := 35) dX7_readInBrackets_25 (by decide) ?_
        refine r_sub [0, 2] rfl ?_
        exact w_X7_readInBrackets_35 hib _ _ _ _ h
    · rw [if_neg c] at h
      refine r_iconst (v := 0) dX7_readInBrackets_6 rfl ?_
      cases h
      exact r_zret rfl rfl dX7_readInBrackets_7 ⟨rfl, rfl, rfl⟩
theorem ok_X7_readInBrackets {D : k_D} {dy : Nat → Nat} {ib : Int32 → Int32 → St → Option (Int32 × St)} {d : Nat} (hib : ∀ (x1 x2 : Int32) (S : St) (out : Int32 × St), ib x1 x2 S = some out → Sp yX7_readInBrackets cX7_readInBrackets 4 (some .boolean) (k_rm d) D dy S [.ref (D.2.2 23), .int x1, .int x2] (k_Pi dy out)) {x1 : Int32} {x2 : Int32} {S : St} {out : Int32 × St} (h : f_X7_readInBrackets ib x1 x2 S = some out) : Sp yX7_readInBrackets cX7_readInBrackets 4 (some .boolean) (k_rm (d + 13)) D dy S [.ref (D.2.2 23), .int x1, .int x2] (k_Pi dy out) := Sp.of (by decide +kernel) (Nat.le_of_ble_eq_true rfl) (w_X7_readInBrackets_0 hib _ _ S out h)
noncomputable def f_X7_ib : Nat → Int32 → Int32 → St → Option (Int32 × St)
  | 0, _, _, _ => none
  | n + 1, x1, x2, S => f_X7_readInBrackets (f_X7_ib n) x1 x2 S
theorem ok_X7_ib {D : k_D} {dy : Nat → Nat} : ∀ (n : Nat) {x1 x2 : Int32} {S : St} {out : Int32 × St}, f_X7_ib n x1 x2 S = some out → Sp yX7_readInBrackets cX7_readInBrackets 4 (some .boolean) (k_rm (13 * n)) D dy S [.ref (D.2.2 23), .int x1, .int x2] (k_Pi dy out) := by
  intro n
  induction n with
  | zero => intro x1 x2 S out h; cases h
  | succ n ih =>
    intro x1 x2 S out h
    exact ok_X7_readInBrackets (d := 13 * n) (fun _ _ _ _ h => ih h) h
noncomputable def f_X7_readClause_19 (S : St) : Option (Int32 × St) := some ((0 : Int32), S)
noncomputable def f_X7_readClause_87 (x2 : Int32) (S : St) : Option (Int32 × St) := (f_X7_leadHere x2 S).bind fun q89 => some ((1 : Int32), q89)
noncomputable def f_X7_readClause_57 (x2 : Int32) (S : St) : Option (Int32 × St) := (f_X7_sees (13 : Nat) S).bind fun q60 => if q60.1 = 0 then (f_X7_put (4 : Int32) (1 : Int32) q60.2).bind fun q83 => f_X7_readClause_87 x2 q83.2 else (f_X7_step q60.2).bind fun q67 => (f_X7_readTest (f_X7_ib 12) (0 : Int32) q67).bind fun q72 => if q72.1 = 0 then some ((0 : Int32), q72.2) else f_X7_readClause_87 x2 q72.2
noncomputable def f_X7_readClause (S : St) : Option (Int32 × St) := (f_X7_clauseKind S).bind fun q1 => if q1.1 = (-1 : Int32) then f_X7_readClause_19 q1.2 else if (gI q1.2 12) < (12 : Int32) then k_let (sI q1.2 12 ((gI q1.2 12) + (1 : Int32))) fun S1 => (f_X7_put q1.1 (0 : Int32) S1).bind fun q34 => (f_X7_step q34.2).bind fun q39 => if q1.1 = (1 : Int32) then (f_X7_readSum (f_X7_ib 12) (0 : Int32) q39).bind fun q49 => if q49.1 = 0 then some ((0 : Int32), q49.2) else f_X7_readClause_57 q34.1 q49.2 else f_X7_readClause_57 q34.1 q39 else f_X7_readClause_19 q1.2
set_option maxRecDepth 100000 in
set_option maxHeartbeats 4000000 in
theorem w_X7_readClause_19 {D : k_D} {dy : Nat → Nat} (S : St) (out : Int32 × St) (h : f_X7_readClause_19 S = some out) : Rn yX7_readClause cX7_readClause 3 (some .boolean) (k_rm 169) 0 0 D dy S (k_Pi dy out) 19 [] [] := by
    unfold f_X7_readClause_19 at h
    refine r_iconst (v := 0) dX7_readClause_19 rfl ?_
    cases h
    exact r_zret rfl rfl dX7_readClause_20 ⟨rfl, rfl, rfl⟩
set_option maxRecDepth 100000 in
set_option maxHeartbeats 4000000 in
theorem w_X7_readClause_87 {D : k_D} {dy : Nat → Nat} (x2 : Int32) (S : St) (out : Int32 × St) (h : f_X7_readClause_87 x2 S = some out) : Rn yX7_readClause cX7_readClause 3 (some .boolean) (k_rm 169) 0 0 D dy S (k_Pi dy out) 87 [(0, .ref (D.2.2 23)), (2, .int x2)] [] := by
    unfold f_X7_readClause_87 at h
    refine r_aload_n 0 dX7_readClause_87 rfl rfl ?_
    refine r_iload_n 1 dX7_readClause_88 rfl rfl ?_
    obtain ⟨q89, hq89, h⟩ := g_bind h
    refine r_callVv [.int x2] [] q89 (ok_X7_leadHere hq89) q_927 q_929 q_41 q_930 q_145 hd_X7_leadHere (ce_23 D dy _) kc7.1 rfl ⟨Nat.le_of_ble_eq_true rfl, Nat.le_of_ble_eq_true rfl⟩ rfl rfl (Nat.le_of_ble_eq_true rfl) dX7_readClause_89 ?_
    refine r_iconst (v := 1) dX7_readClause_92 rfl ?_
    cases h
    exact r_zret rfl rfl dX7_readClause_93 ⟨rfl, rfl, rfl⟩
set_option maxRecDepth 100000 in
set_option maxHeartbeats 4000000 in
theorem w_X7_readClause_57 {D : k_D} {dy : Nat → Nat} (x2 : Int32) (S : St) (out : Int32 × St) (h : f_X7_readClause_57 x2 S = some out) : Rn yX7_readClause cX7_readClause 3 (some .boolean) (k_rm 169) 0 0 D dy S (k_Pi dy out) 57 [(0, .ref (D.2.2 23)), (2, .int x2)] [] := by
    unfold f_X7_readClause_57 at h
    refine r_aload_n 0 dX7_readClause_57 rfl rfl ?_
    refine r_ldcS (i := 13) (by decide) rfl rfl dX7_readClause_58 ?_
    obtain ⟨q60, hq60, h⟩ := g_bind h
    refine r_callVi [.ref (D.2.2 (1000 + (13 : Nat)))] [] q60 (ok_X7_sees hq60) q_831 q_833 q_30 q_834 q_145 hd_X7_sees (ce_23 D dy _) kc7.1 rfl ⟨Nat.le_of_ble_eq_true rfl, Nat.le_of_ble_eq_true rfl⟩ rfl rfl (Nat.le_of_ble_eq_true rfl) dX7_readClause_60 ?_
    refine r_if_eq (t := 80) dX7_readClause_63 (by decide) (fun c => ?_) (fun c => ?_)
    · rw [if_pos c] at h
      refine r_aload_n 0 dX7_readClause_80 rfl rfl ?_
      refine r_iconst (v := 4) dX7_readClause_81 rfl ?_
      refine r_iconst (v := 1) dX7_readClause_82 rfl ?_
      obtain ⟨q83, hq83, h⟩ := g_bind h
      refine r_callVi [.int (4 : Int32), .int (1 : Int32)] [] q83 (ok_X7_put hq83) q_885 q_887 q_31 q_888 q_145 hd_X7_put (ce_23 D dy _) kc7.1 rfl ⟨Nat.le_of_ble_eq_true rfl, Nat.le_of_ble_eq_true rfl⟩ rfl rfl (Nat.le_of_ble_eq_true rfl) dX7_readClause_83 ?_
      refine r_pop dX7_readClause_86 rfl ?_
      exact w_X7_readClause_87 _ _ _ h
    · rw [if_neg c] at h
      refine r_aload_n 0 dX7_readClause_66 rfl rfl ?_
      obtain ⟨q67, hq67, h⟩ := g_bind h
      refine r_callVv [] [] q67 (ok_X7_step hq67) q_808 q_810 q_25 q_811 q_145 hd_X7_step (ce_23 D dy _) kc7.1 rfl ⟨Nat.le_of_ble_eq_true rfl, Nat.le_of_ble_eq_true rfl⟩ rfl rfl (Nat.le_of_ble_eq_true rfl) dX7_readClause_67 ?_
      refine r_aload_n 0 dX7_readClause_70 rfl rfl ?_
      refine r_iconst (v := 0) dX7_readClause_71 rfl ?_
      obtain ⟨q72, hq72, h⟩ := g_bind h
      refine r_callVi [.int (0 : Int32)] [] q72 (ok_X7_readTest (fun _ _ _ _ h => ok_X7_ib 12 h) hq72) q_909 q_911 q_37 q_912 q_145 hd_X7_readTest (ce_23 D dy _) kc7.1 rfl ⟨Nat.le_of_ble_eq_true rfl, Nat.le_of_ble_eq_true rfl⟩ rfl rfl (Nat.le_of_ble_eq_true rfl) dX7_readClause_72 ?_
      refine r_if_ne (t := 87) dX7_readClause_75 (by decide) (fun c => ?_) (fun c => ?_)
      · rw [if_neg c] at h
        exact w_X7_readClause_87 _ _ _ h
      · rw [if_pos c] at h
        refine r_iconst (v := 0) dX7_readClause_78 rfl ?_
        cases h
        exact r_zret rfl rfl dX7_readClause_79 ⟨rfl, rfl, rfl⟩
set_option maxRecDepth 100000 in
set_option maxHeartbeats 4000000 in
theorem w_X7_readClause_0 {D : k_D} {dy : Nat → Nat} (S : St) (out : Int32 × St) (h : f_X7_readClause S = some out) : Rn yX7_readClause cX7_readClause 3 (some .boolean) (k_rm 169) 0 0 D dy S (k_Pi dy out) 0 [(0, .ref (D.2.2 23))] [] := by
    unfold f_X7_readClause at h
    refine r_aload_n 0 dX7_readClause_0 rfl rfl ?_
    obtain ⟨q1, hq1, h⟩ := g_bind h
    refine r_callVi [] [] q1 (ok_X7_clauseKind hq1) q_826 q_828 q_29 q_829 q_145 hd_X7_clauseKind (ce_23 D dy _) kc7.1 rfl ⟨Nat.le_of_ble_eq_true rfl, Nat.le_of_ble_eq_true rfl⟩ rfl rfl (Nat.le_of_ble_eq_true rfl) dX7_readClause_1 ?_
    refine r_istore_n dX7_readClause_4 rfl (by decide) rfl ?_
    refine r_iload_n 0 dX7_readClause_5 rfl rfl ?_
    refine r_iconst (v := -1) dX7_readClause_6 rfl ?_
    refine r_icmp_eq (t := 19) dX7_readClause_7 (by decide) (fun c => ?_) (fun c => ?_)
    · rw [if_pos c] at h
      refine r_sub [] rfl ?_
      exact w_X7_readClause_19 _ _ h
    · rw [if_neg c] at h
      refine r_aload_n 1 dX7_readClause_10 rfl rfl ?_
      refine gf_23_4 q_338 dX7_readClause_11 ?_
      refine r_bipush (v := 12) dX7_readClause_14 rfl ?_
      refine r_icmp_lt (t := 21) dX7_readClause_16 (by decide) (fun c => ?_) (fun c => ?_)
      · rw [if_pos c] at h
        refine r_aload_n 1 dX7_readClause_21 rfl rfl ?_
        refine r_dup dX7_readClause_22 rfl ?_
        refine gf_23_4 q_338 dX7_readClause_23 ?_
        refine r_iconst (v := 1) dX7_readClause_26 rfl ?_
        refine r_iadd dX7_readClause_27 ?_
        refine pf_23_4 q_338 dX7_readClause_28 ?_
        generalize sI q1.2 12 ((gI q1.2 12) + (1 : Int32)) = S1 at h ⊢
        replace h := g_let h
        refine r_aload_n 1 dX7_readClause_31 rfl rfl ?_
        refine r_iload_n 0 dX7_readClause_32 rfl rfl ?_
        refine r_iconst (v := 0) dX7_readClause_33 rfl ?_
        obtain ⟨q34, hq34, h⟩ := g_bind h
        refine r_callVi [.int q1.1, .int (0 : Int32)] [] q34 (ok_X7_put hq34) q_885 q_887 q_31 q_888 q_145 hd_X7_put (ce_23 D dy _) kc7.1 rfl ⟨Nat.le_of_ble_eq_true rfl, Nat.le_of_ble_eq_true rfl⟩ rfl rfl (Nat.le_of_ble_eq_true rfl) dX7_readClause_34 ?_
        refine r_istore_n dX7_readClause_37 rfl (by decide) rfl ?_
        refine r_aload_n 2 dX7_readClause_38 rfl rfl ?_
        obtain ⟨q39, hq39, h⟩ := g_bind h
        refine r_callVv [] [] q39 (ok_X7_step hq39) q_808 q_810 q_25 q_811 q_145 hd_X7_step (ce_23 D dy _) kc7.1 rfl ⟨Nat.le_of_ble_eq_true rfl, Nat.le_of_ble_eq_true rfl⟩ rfl rfl (Nat.le_of_ble_eq_true rfl) dX7_readClause_39 ?_
        refine r_iload_n 1 dX7_readClause_42 rfl rfl ?_
        refine r_iconst (v := 1) dX7_readClause_43 rfl ?_
        refine r_icmp_ne (t := 57) dX7_readClause_44 (by decide) (fun c => ?_) (fun c => ?_)
        · rw [if_neg c] at h
          refine r_sub [2, 0] rfl ?_
          exact w_X7_readClause_57 _ _ _ h
        · rw [if_pos c] at h
          refine r_aload_n 2 dX7_readClause_47 rfl rfl ?_
          refine r_iconst (v := 0) dX7_readClause_48 rfl ?_
          obtain ⟨q49, hq49, h⟩ := g_bind h
          refine r_callVi [.int (0 : Int32)] [] q49 (ok_X7_readSum (fun _ _ _ _ h => ok_X7_ib 12 h) hq49) q_889 q_891 q_32 q_892 q_145 hd_X7_readSum (ce_23 D dy _) kc7.1 rfl ⟨Nat.le_of_ble_eq_true rfl, Nat.le_of_ble_eq_true rfl⟩ rfl rfl (Nat.le_of_ble_eq_true rfl) dX7_readClause_49 ?_
          refine r_if_ne (t := 57) dX7_readClause_52 (by decide) (fun c => ?_) (fun c => ?_)
          · rw [if_neg c] at h
            refine r_sub [2, 0] rfl ?_
            exact w_X7_readClause_57 _ _ _ h
          · rw [if_pos c] at h
            refine r_iconst (v := 0) dX7_readClause_55 rfl ?_
            cases h
            exact r_zret rfl rfl dX7_readClause_56 ⟨rfl, rfl, rfl⟩
      · rw [if_neg c] at h
        refine r_sub [] rfl ?_
        exact w_X7_readClause_19 _ _ h
theorem ok_X7_readClause {D : k_D} {dy : Nat → Nat} {S : St} {out : Int32 × St} (h : f_X7_readClause S = some out) : Sp yX7_readClause cX7_readClause 3 (some .boolean) (k_rm 169) D dy S [.ref (D.2.2 23)] (k_Pi dy out) := Sp.of (by decide +kernel) (Nat.le_of_ble_eq_true rfl) (w_X7_readClause_0 S out h)
noncomputable def f_X11_evenings_22 (S : St) : Option (Int32 × St) := (f_X11_refuse (-1 : Int32) S).bind fun q24 => some (q24.1, q24.2)
noncomputable def f_X11_evenings (x1 : Int32) (x2 : Int32) (S : St) : Option (Int32 × St) := if x1 < 0 then f_X11_evenings_22 S else if (1000000 : Int32) < x1 then f_X11_evenings_22 S else if x2 < (1 : Int32) then f_X11_evenings_22 S else if x2 ≤ (20 : Int32) then (f_X6_write x1 x2 S).bind fun q35 => (f_X11_done q35.1 q35.2).bind fun q38 => some (q38.1, q38.2) else f_X11_evenings_22 S
set_option maxRecDepth 100000 in
set_option maxHeartbeats 4000000 in
theorem w_X11_evenings_22 {D : k_D} {dy : Nat → Nat} (S : St) (out : Int32 × St) (h : f_X11_evenings_22 S = some out) : Rn yX11_evenings cX11_evenings 3 (some .int) (k_rm 3) 0 0 D dy S (k_Pi dy out) 22 [(0, .ref (D.2.2 48))] [] := by
    unfold f_X11_evenings_22 at h
    refine r_aload_n 0 dX11_evenings_22 rfl rfl ?_
    refine r_iconst (v := -1) dX11_evenings_23 rfl ?_
    obtain ⟨q24, hq24, h⟩ := g_bind h
    refine r_callVi [.int (-1 : Int32)] [] q24 (ok_X11_refuse hq24) q_640 q_642 q_0 q_643 q_141 hd_X11_refuse (ce_48 D dy _) kc11.1 rfl ⟨Nat.le_of_ble_eq_true rfl, Nat.le_of_ble_eq_true rfl⟩ rfl rfl (Nat.le_of_ble_eq_true rfl) dX11_evenings_24 ?_
    cases h
    exact r_iret rfl dX11_evenings_27 ⟨rfl, rfl, rfl⟩
set_option maxRecDepth 100000 in
set_option maxHeartbeats 4000000 in
theorem w_X11_evenings_0 {D : k_D} {dy : Nat → Nat} (x1 : Int32) (x2 : Int32) (S : St) (out : Int32 × St) (h : f_X11_evenings x1 x2 S = some out) : Rn yX11_evenings cX11_evenings 3 (some .int) (k_rm 3) 0 0 D dy S (k_Pi dy out) 0 [(0, .ref (D.2.2 48)), (1, .int x1), (2, .int x2)] [] := by
    unfold f_X11_evenings at h
    refine r_iload_n 1 dX11_evenings_0 rfl rfl ?_
    refine r_if_lt (t := 22) dX11_evenings_1 (by decide) (fun c => ?_) (fun c => ?_)
    · rw [if_pos c] at h
      refine r_sub [0] rfl ?_
      exact w_X11_evenings_22 _ _ h
    · rw [if_neg c] at h
      refine r_iload_n 1 dX11_evenings_4 rfl rfl ?_
      refine r_ldcw (v := 1000000) q_1235 dX11_evenings_5 ?_
      refine r_icmp_gt (t := 22) dX11_evenings_8 (by decide) (fun c => ?_) (fun c => ?_)
      · rw [if_pos c] at h
        refine r_sub [0] rfl ?_
        exact w_X11_evenings_22 _ _ h
      · rw [if_neg c] at h
        refine r_iload_n 2 dX11_evenings_11 rfl rfl ?_
        refine r_iconst (v := 1) dX11_evenings_12 rfl ?_
        refine r_icmp_lt (t := 22) dX11_evenings_13 (by decide) (fun c => ?_) (fun c => ?_)
        · rw [if_pos c] at h
          refine r_sub [0] rfl ?_
          exact w_X11_evenings_22 _ _ h
        · rw [if_neg c] at h
          refine r_iload_n 2 dX11_evenings_16 rfl rfl ?_
          refine r_bipush (v := 20) dX11_evenings_17 rfl ?_
          refine r_icmp_le (t := 28) dX11_evenings_19 (by decide) (fun c => ?_) (fun c => ?_)
          · rw [if_pos c] at h
            refine r_aload_n 0 dX11_evenings_28 rfl rfl ?_
            refine r_aload_n 0 dX11_evenings_29 rfl rfl ?_
            refine gf_48_10 q_600 dX11_evenings_30 ?_
            refine r_iload_n 1 dX11_evenings_33 rfl rfl ?_
            refine r_iload_n 2 dX11_evenings_34 rfl rfl ?_
            obtain ⟨q35, hq35, h⟩ := g_bind h
            refine r_callVNi [.int x1, .int x2] [.ref (D.2.2 48)] q35 (ok_X6_write hq35) q_1236 q_1238 q_81 q_1239 q_152 hd_X6_write (ce_44 D dy _) kc6.1 rfl ⟨Nat.le_of_ble_eq_true rfl, Nat.le_of_ble_eq_true rfl⟩ rfl rfl (Nat.le_of_ble_eq_true rfl) dX11_evenings_35 ?_
            obtain ⟨q38, hq38, h⟩ := g_bind h
            refine r_callVi [.int q35.1] [] q38 (ok_X11_done hq38) q_648 q_650 q_2 q_651 q_141 hd_X11_done (ce_48 D dy _) kc11.1 rfl ⟨Nat.le_of_ble_eq_true rfl, Nat.le_of_ble_eq_true rfl⟩ rfl rfl (Nat.le_of_ble_eq_true rfl) dX11_evenings_38 ?_
            cases h
            exact r_iret rfl dX11_evenings_41 ⟨rfl, rfl, rfl⟩
          · rw [if_neg c] at h
            refine r_sub [0] rfl ?_
            exact w_X11_evenings_22 _ _ h
theorem ok_X11_evenings {D : k_D} {dy : Nat → Nat} {x1 : Int32} {x2 : Int32} {S : St} {out : Int32 × St} (h : f_X11_evenings x1 x2 S = some out) : Sp yX11_evenings cX11_evenings 3 (some .int) (k_rm 3) D dy S [.ref (D.2.2 48), .int x1, .int x2] (k_Pi dy out) := Sp.of (by decide +kernel) (Nat.le_of_ble_eq_true rfl) (w_X11_evenings_0 _ _ S out h)
